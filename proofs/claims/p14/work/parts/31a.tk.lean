/-! The class's cells, exactly: int fields Z, rows of longs al, of ints ai, of booleans az, the members mm, how the stepper's rows lie sk. -/
def kc (Z : Nat → Int) (al : Nat → Int64) (ai : Nat → Int) (az : Nat → Int32) (mm : Nat → Option Nat) (sk : Nat) (t a : Nat) (c : Option va_E) : Prop := match t with
  | 1 => c = some (.inr (1, [.ref (a + 1), .ref (a + 2), .int (vz (Z 0))]))
  | 2 => c = some (.inl (1, 60, .inr (.inl al)))
  | 3 => c = some (.inr (2, [.ref (a + 1), .int (vz (Z 0)), .int (vz (Z 1))]))
  | 4 => c = some (.inr (0, [.int (vz (Z 0)), .ref 3, .ref 4, .ref 5]))
  | 5 => c = some (.inl (2, 8, .inl az))
  | 6 => c = some (.inl (1, 8, .inr (.inl al)))
  | 7 => c = some (.inl (0, 8, .inl (fun j => vz (ai j))))
  | 8 => ∃ f : Nat → Option Nat, (∀ j, j < 16 → f j = some (7 + 3 * j)) ∧ c = some (.inl (3, 16, .inr (.inr (.inr (.inr f)))))
  | 9 => c = some (.inl (2, 16, .inl az))
  | 10 => ∃ f : Nat → Option Nat, (∀ j, j < 40 → f j = some (57 + 4 * j)) ∧ c = some (.inl (4, 40, .inr (.inr (.inr (.inr f)))))
  | 11 => c = some (.inr (4, [.ref 218, .int (vz (Z 0))]))
  | 12 => c = some (.inl (4, 8, .inr (.inr (.inr (.inr mm)))))
  | 13 => c = some (.inr (3, [.ref (220 + sk), .ref (221 + sk), .ref (222 - sk), .ref (223 - sk), .int (vz (Z 0))]))
  | 14 => c = some (.inl (1, 3660, .inr (.inl al)))
  | 15 => c = some (.inl (0, 8, .inl (fun j => vz (ai j))))
  | 16 => c = some (.inr (5, [.ref 2, .ref 6, .ref 55, .int (vz (Z 0)), .ref 56, .int (vz (Z 1)), .ref 217, .ref 219, .ref 224, .ref 227, .ref 230, .ref 233, .ref 234, .ref 237, .int (vz (Z 2)), .int (vz (Z 3)), .int (vz (Z 4)), .int (vz (Z 5))]))
  | _ => True
def tk (Z : Nat → Nat → Int) (al : Nat → Nat → Int64) (ai : Nat → Nat → Int) (az : Nat → Nat → Int32) (mm : Nat → Option Nat) (sk : Nat) (v0 vh : vm_H) : Prop := vh.length = v0.length ∧ (∀ a, ty a = 0 → vm_at vh a = vm_at v0 a) ∧ ((∀ a j, -2147483648 ≤ Z a j ∧ Z a j < 2147483648) ∧ (∀ a j, -2147483648 ≤ ai a j ∧ ai a j < 2147483648) ∧ (sk = 0 ∨ sk = 2)) ∧ ∀ a, kc (Z a) (al a) (ai a) (az a) mm sk (ty a) a (vm_at vh a)
section TK
variable {Z Z1 : Nat → Nat → Int} {al al1 : Nat → Nat → Int64} {ai ai1 : Nat → Nat → Int} {az az1 : Nat → Nat → Int32} {mm : Nat → Option Nat} {sk : Nat} {v0 vh v1 : vm_H} {a : Nat} {c : va_E}
theorem tk.at {t : Nat} (h : tk Z al ai az mm sk v0 vh) (ha : ty a = t) : kc (Z a) (al a) (ai a) (az a) mm sk t a (vm_at vh a) := by
  have h1 := h.2.2.2 a
  rwa [ha] at h1
theorem tk_r (h : tk Z al ai az mm sk v0 vh) (a j : Nat) : -2147483648 ≤ Z a j ∧ Z a j < 2147483648 := h.2.2.1.1 a j
theorem tk_ri (h : tk Z al ai az mm sk v0 vh) (a j : Nat) : -2147483648 ≤ ai a j ∧ ai a j < 2147483648 := h.2.2.1.2.1 a j
theorem tk_poly (h : tk Z al ai az mm sk v0 vh) (ha : ty a = 1) : vm_at vh a = some (.inr (1, [.ref (a + 1), .ref (a + 2), .int (vz (Z a 0))])) := h.at ha
theorem tk_l60 (h : tk Z al ai az mm sk v0 vh) (ha : ty a = 2) : vm_at vh a = some (.inl (1, 60, .inr (.inl (al a)))) := h.at ha
theorem tk_row (h : tk Z al ai az mm sk v0 vh) (ha : ty a = 3) : vm_at vh a = some (.inr (2, [.ref (a + 1), .int (vz (Z a 0)), .int (vz (Z a 1))])) := h.at ha
theorem tk_pla (h : tk Z al ai az mm sk v0 vh) : vm_at vh 2 = some (.inr (0, [.int (vz (Z 2 0)), .ref 3, .ref 4, .ref 5])) := h.at (a := 2) (t := 4) rfl
theorem tk_free (h : tk Z al ai az mm sk v0 vh) : vm_at vh 3 = some (.inl (2, 8, .inl (az 3))) := h.at (a := 3) (t := 5) rfl
theorem tk_vars (h : tk Z al ai az mm sk v0 vh) : vm_at vh 5 = some (.inl (0, 8, .inl (fun j => vz (ai 5 j)))) := h.at (a := 5) (t := 7) rfl
theorem tk_polys (h : tk Z al ai az mm sk v0 vh) : ∃ f : Nat → Option Nat, (∀ j, j < 16 → f j = some (7 + 3 * j)) ∧ vm_at vh 6 = some (.inl (3, 16, .inr (.inr (.inr (.inr f))))) := h.at (a := 6) (t := 8) rfl
theorem tk_hyps (h : tk Z al ai az mm sk v0 vh) : vm_at vh 55 = some (.inl (2, 16, .inl (az 55))) := h.at (a := 55) (t := 9) rfl
theorem tk_rows (h : tk Z al ai az mm sk v0 vh) : ∃ f : Nat → Option Nat, (∀ j, j < 40 → f j = some (57 + 4 * j)) ∧ vm_at vh 56 = some (.inl (4, 40, .inr (.inr (.inr (.inr f))))) := h.at (a := 56) (t := 10) rfl
theorem tk_tri (h : tk Z al ai az mm sk v0 vh) : vm_at vh 217 = some (.inr (4, [.ref 218, .int (vz (Z 217 0))])) := h.at (a := 217) (t := 11) rfl
theorem tk_mem (h : tk Z al ai az mm sk v0 vh) : vm_at vh 218 = some (.inl (4, 8, .inr (.inr (.inr (.inr mm))))) := h.at (a := 218) (t := 12) rfl
theorem tk_stp (h : tk Z al ai az mm sk v0 vh) : vm_at vh 219 = some (.inr (3, [.ref (220 + sk), .ref (221 + sk), .ref (222 - sk), .ref (223 - sk), .int (vz (Z 219 0))])) := h.at (a := 219) (t := 13) rfl
theorem tk_big (h : tk Z al ai az mm sk v0 vh) (ha : ty a = 14) : vm_at vh a = some (.inl (1, 3660, .inr (.inl (al a)))) := h.at ha
theorem tk_i8 (h : tk Z al ai az mm sk v0 vh) (ha : ty a = 15) : vm_at vh a = some (.inl (0, 8, .inl (fun j => vz (ai a j)))) := h.at ha
theorem tk_main (h : tk Z al ai az mm sk v0 vh) : vm_at vh 1 = some (.inr (5, [.ref 2, .ref 6, .ref 55, .int (vz (Z 1 0)), .ref 56, .int (vz (Z 1 1)), .ref 217, .ref 219, .ref 224, .ref 227, .ref 230, .ref 233, .ref 234, .ref 237, .int (vz (Z 1 2)), .int (vz (Z 1 3)), .int (vz (Z 1 4)), .int (vz (Z 1 5))])) := h.at (a := 1) (t := 16) rfl
theorem tk_k (h : tk Z al ai az mm sk v0 vh) : sk = 0 ∨ sk = 2 := h.2.2.1.2.2
/-- one cell changes -/
theorem tk_upd (h : tk Z al ai az mm sk v0 vh) (hb : vm_but a vh v1) (hc : vm_at v1 a = some c) {t : Nat} (ha : ty a = t) (h0 : t ≠ 0) (hZ : ∀ b, b ≠ a → Z1 b = Z b) (hl : ∀ b, b ≠ a → al1 b = al b) (hi : ∀ b, b ≠ a → ai1 b = ai b) (hz : ∀ b, b ≠ a → az1 b = az b) (hr : (∀ j, -2147483648 ≤ Z1 a j ∧ Z1 a j < 2147483648) ∧ ∀ j, -2147483648 ≤ ai1 a j ∧ ai1 a j < 2147483648) (hq : kc (Z1 a) (al1 a) (ai1 a) (az1 a) mm sk t a (some c)) : tk Z1 al1 ai1 az1 mm sk v0 v1 := by
  refine ⟨hb.1.trans h.1, fun b q => ?_, ⟨fun b j => ?_, fun b j => ?_, h.2.2.1.2.2⟩, fun b => ?_⟩
  · rw [hb.2 b (fun e => by subst e; exact h0 (ha.symm.trans q))]; exact h.2.1 b q
  · by_cases e : b = a
    · subst e; exact hr.1 j
    · rw [hZ b e]; exact h.2.2.1.1 b j
  · by_cases e : b = a
    · subst e; exact hr.2 j
    · rw [hi b e]; exact h.2.2.1.2.1 b j
  · by_cases e : b = a
    · subst e; rw [hc, ha]; exact hq
    · rw [hb.2 b e, hZ b e, hl b e, hi b e, hz b e]; exact h.2.2.2 b
theorem u2_rng {f : Nat → Nat → Int} {a i : Nat} {q : Int} (h : ∀ a j, -2147483648 ≤ f a j ∧ f a j < 2147483648) (hq : -2147483648 ≤ q ∧ q < 2147483648) : ∀ j, -2147483648 ≤ u2 f a i q a j ∧ u2 f a i q a j < 2147483648 := fun j => by
  unfold u2
  split
  · exact hq
  · exact h a j
theorem tk_uZ (h : tk Z al ai az mm sk v0 vh) {j : Nat} {q : Int} (hq : -2147483648 ≤ q ∧ q < 2147483648) (hb : vm_but a vh v1) (hc : vm_at v1 a = some c) {t : Nat} (ha : ty a = t) (h0 : t ≠ 0) (hk : kc (u2 Z a j q a) (al a) (ai a) (az a) mm sk t a (some c)) : tk (u2 Z a j q) al ai az mm sk v0 v1 :=
  tk_upd h hb hc ha h0 (fun _ e => u2_af e) (fun _ _ => rfl) (fun _ _ => rfl) (fun _ _ => rfl) ⟨u2_rng h.2.2.1.1 hq, h.2.2.1.2.1 a⟩ hk
theorem tk_Zp {q : Int} (h : tk Z al ai az mm sk v0 vh) (ha : ty a = 1) (hq : -2147483648 ≤ q ∧ q < 2147483648) (hb : vm_but a vh v1) (hc : vm_at v1 a = some (.inr (1, [.ref (a + 1), .ref (a + 2), .int (vz q)]))) : tk (u2 Z a 0 q) al ai az mm sk v0 v1 := tk_uZ h hq hb hc ha (by decide) (by show some _ = some _; rw [u2_s])
theorem tk_Zr0 {q : Int} (h : tk Z al ai az mm sk v0 vh) (ha : ty a = 3) (hq : -2147483648 ≤ q ∧ q < 2147483648) (hb : vm_but a vh v1) (hc : vm_at v1 a = some (.inr (2, [.ref (a + 1), .int (vz q), .int (vz (Z a 1))]))) : tk (u2 Z a 0 q) al ai az mm sk v0 v1 := tk_uZ h hq hb hc ha (by decide) (by show some _ = some _; rw [u2_s, u2_o (by decide)])
theorem tk_Zr1 {q : Int} (h : tk Z al ai az mm sk v0 vh) (ha : ty a = 3) (hq : -2147483648 ≤ q ∧ q < 2147483648) (hb : vm_but a vh v1) (hc : vm_at v1 a = some (.inr (2, [.ref (a + 1), .int (vz (Z a 0)), .int (vz q)]))) : tk (u2 Z a 1 q) al ai az mm sk v0 v1 := tk_uZ h hq hb hc ha (by decide) (by show some _ = some _; rw [u2_s, u2_o (by decide)])
theorem tk_Zt {q : Int} (h : tk Z al ai az mm sk v0 vh) (hq : -2147483648 ≤ q ∧ q < 2147483648) (hb : vm_but 217 vh v1) (hc : vm_at v1 217 = some (.inr (4, [.ref 218, .int (vz q)]))) : tk (u2 Z 217 0 q) al ai az mm sk v0 v1 := tk_uZ h hq hb hc (t := 11) rfl (by decide) (by show some _ = some _; rw [u2_s])
theorem tk_Zs {q : Int} (h : tk Z al ai az mm sk v0 vh) (hq : -2147483648 ≤ q ∧ q < 2147483648) (hb : vm_but 219 vh v1) (hc : vm_at v1 219 = some (.inr (3, [.ref (220 + sk), .ref (221 + sk), .ref (222 - sk), .ref (223 - sk), .int (vz q)]))) : tk (u2 Z 219 0 q) al ai az mm sk v0 v1 := tk_uZ h hq hb hc (t := 13) rfl (by decide) (by show some _ = some _; rw [u2_s])
theorem tk_Zm1 {q : Int} (h : tk Z al ai az mm sk v0 vh) (hq : -2147483648 ≤ q ∧ q < 2147483648) (hb : vm_but 1 vh v1) (hc : vm_at v1 1 = some (.inr (5, [.ref 2, .ref 6, .ref 55, .int (vz (Z 1 0)), .ref 56, .int (vz q), .ref 217, .ref 219, .ref 224, .ref 227, .ref 230, .ref 233, .ref 234, .ref 237, .int (vz (Z 1 2)), .int (vz (Z 1 3)), .int (vz (Z 1 4)), .int (vz (Z 1 5))]))) : tk (u2 Z 1 1 q) al ai az mm sk v0 v1 := tk_uZ h hq hb hc (t := 16) rfl (by decide) (by show some _ = some _; rw [u2_s, u2_o (by decide), u2_o (by decide), u2_o (by decide), u2_o (by decide), u2_o (by decide)])
theorem tk_Zm2 {q : Int} (h : tk Z al ai az mm sk v0 vh) (hq : -2147483648 ≤ q ∧ q < 2147483648) (hb : vm_but 1 vh v1) (hc : vm_at v1 1 = some (.inr (5, [.ref 2, .ref 6, .ref 55, .int (vz (Z 1 0)), .ref 56, .int (vz (Z 1 1)), .ref 217, .ref 219, .ref 224, .ref 227, .ref 230, .ref 233, .ref 234, .ref 237, .int (vz q), .int (vz (Z 1 3)), .int (vz (Z 1 4)), .int (vz (Z 1 5))]))) : tk (u2 Z 1 2 q) al ai az mm sk v0 v1 := tk_uZ h hq hb hc (t := 16) rfl (by decide) (by show some _ = some _; rw [u2_s, u2_o (by decide), u2_o (by decide), u2_o (by decide), u2_o (by decide), u2_o (by decide)])
theorem tk_Zm3 {q : Int} (h : tk Z al ai az mm sk v0 vh) (hq : -2147483648 ≤ q ∧ q < 2147483648) (hb : vm_but 1 vh v1) (hc : vm_at v1 1 = some (.inr (5, [.ref 2, .ref 6, .ref 55, .int (vz (Z 1 0)), .ref 56, .int (vz (Z 1 1)), .ref 217, .ref 219, .ref 224, .ref 227, .ref 230, .ref 233, .ref 234, .ref 237, .int (vz (Z 1 2)), .int (vz q), .int (vz (Z 1 4)), .int (vz (Z 1 5))]))) : tk (u2 Z 1 3 q) al ai az mm sk v0 v1 := tk_uZ h hq hb hc (t := 16) rfl (by decide) (by show some _ = some _; rw [u2_s, u2_o (by decide), u2_o (by decide), u2_o (by decide), u2_o (by decide), u2_o (by decide)])
theorem tk_Zm4 {q : Int} (h : tk Z al ai az mm sk v0 vh) (hq : -2147483648 ≤ q ∧ q < 2147483648) (hb : vm_but 1 vh v1) (hc : vm_at v1 1 = some (.inr (5, [.ref 2, .ref 6, .ref 55, .int (vz (Z 1 0)), .ref 56, .int (vz (Z 1 1)), .ref 217, .ref 219, .ref 224, .ref 227, .ref 230, .ref 233, .ref 234, .ref 237, .int (vz (Z 1 2)), .int (vz (Z 1 3)), .int (vz q), .int (vz (Z 1 5))]))) : tk (u2 Z 1 4 q) al ai az mm sk v0 v1 := tk_uZ h hq hb hc (t := 16) rfl (by decide) (by show some _ = some _; rw [u2_s, u2_o (by decide), u2_o (by decide), u2_o (by decide), u2_o (by decide), u2_o (by decide)])
theorem tk_Zm5 {q : Int} (h : tk Z al ai az mm sk v0 vh) (hq : -2147483648 ≤ q ∧ q < 2147483648) (hb : vm_but 1 vh v1) (hc : vm_at v1 1 = some (.inr (5, [.ref 2, .ref 6, .ref 55, .int (vz (Z 1 0)), .ref 56, .int (vz (Z 1 1)), .ref 217, .ref 219, .ref 224, .ref 227, .ref 230, .ref 233, .ref 234, .ref 237, .int (vz (Z 1 2)), .int (vz (Z 1 3)), .int (vz (Z 1 4)), .int (vz q)]))) : tk (u2 Z 1 5 q) al ai az mm sk v0 v1 := tk_uZ h hq hb hc (t := 16) rfl (by decide) (by show some _ = some _; rw [u2_s, u2_o (by decide), u2_o (by decide), u2_o (by decide), u2_o (by decide), u2_o (by decide)])
/-- a whole row of longs -/
def uA {α : Type} (f : Nat → Nat → α) (a : Nat) (g : Nat → α) : Nat → Nat → α := fun b => if b = a then g else f b
theorem uA_s {α : Type} {f : Nat → Nat → α} {a : Nat} {g : Nat → α} : uA f a g a = g := if_pos rfl
theorem uA_o {α : Type} {f : Nat → Nat → α} {a b : Nat} {g : Nat → α} (h : b ≠ a) : uA f a g b = f b := if_neg h
theorem tk_A {g : Nat → Int64} (h : tk Z al ai az mm sk v0 vh) (ha : ty a = 2) (hb : vm_but a vh v1) (hc : vm_at v1 a = some (.inl (1, 60, .inr (.inl g)))) : tk Z (uA al a g) ai az mm sk v0 v1 :=
  tk_upd h hb hc ha (by decide) (fun _ _ => rfl) (fun _ e => uA_o e) (fun _ _ => rfl) (fun _ _ => rfl) ⟨h.2.2.1.1 a, h.2.2.1.2.1 a⟩ (by show some _ = some _; rw [uA_s])
theorem tk_B {g : Nat → Int64} (h : tk Z al ai az mm sk v0 vh) (ha : ty a = 14) (hb : vm_but a vh v1) (hc : vm_at v1 a = some (.inl (1, 3660, .inr (.inl g)))) : tk Z (uA al a g) ai az mm sk v0 v1 :=
  tk_upd h hb hc ha (by decide) (fun _ _ => rfl) (fun _ e => uA_o e) (fun _ _ => rfl) (fun _ _ => rfl) ⟨h.2.2.1.1 a, h.2.2.1.2.1 a⟩ (by show some _ = some _; rw [uA_s])
theorem tk_I {i : Nat} {q : Int} (h : tk Z al ai az mm sk v0 vh) (ha : ty a = 15) (hq : -2147483648 ≤ q ∧ q < 2147483648) (hb : vm_but a vh v1) (hc : vm_at v1 a = some (.inl (0, 8, .inl (upd (fun j => vz (ai a j)) i (vz q))))) : tk Z al (u2 ai a i q) az mm sk v0 v1 :=
  tk_upd h hb hc ha (by decide) (fun _ _ => rfl) (fun _ _ => rfl) (fun _ e => u2_af e) (fun _ _ => rfl) ⟨h.2.2.1.1 a, u2_rng h.2.2.1.2.1 hq⟩ (by
    show some (Sum.inl (0, 8, Sum.inl (upd (fun j => vz (ai a j)) i (vz q)))) = some (Sum.inl (0, 8, Sum.inl (fun j => vz (u2 ai a i q a j))))
    have e : upd (fun j => vz (ai a j)) i (vz q) = fun j => vz (u2 ai a i q a j) := by
      funext j
      unfold upd u2
      by_cases hj : j = i
      · rw [if_pos hj, if_pos ⟨rfl, hj⟩]
      · rw [if_neg hj, if_neg (fun z => hj z.2)]
    rw [e])
theorem tk_IA {g : Nat → Int} (h : tk Z al ai az mm sk v0 vh) (ha : ty a = 15) (hg : ∀ j, -2147483648 ≤ g j ∧ g j < 2147483648) (hb : vm_but a vh v1) (hc : vm_at v1 a = some (.inl (0, 8, .inl (fun j => vz (g j))))) : tk Z al (uA ai a g) az mm sk v0 v1 :=
  tk_upd h hb hc ha (by decide) (fun _ _ => rfl) (fun _ _ => rfl) (fun _ e => uA_o e) (fun _ _ => rfl) ⟨h.2.2.1.1 a, fun j => by rw [uA_s]; exact hg j⟩ (by show some _ = some _; rw [uA_s])
theorem tk_M {m1 : Nat → Option Nat} (h : tk Z al ai az mm sk v0 vh) (hb : vm_but 218 vh v1) (hc : vm_at v1 218 = some (.inl (4, 8, .inr (.inr (.inr (.inr m1)))))) : tk Z al ai az m1 sk v0 v1 := by
  refine ⟨hb.1.trans h.1, fun b q => ?_, h.2.2.1, fun b => ?_⟩
  · rw [hb.2 b (fun e => by subst e; cases q)]; exact h.2.1 b q
  · by_cases e : b = 218
    · subst e; rw [hc]; exact (rfl : some _ = some _)
    · rw [hb.2 b e]
      have h1 := h.2.2.2 b
      have h2 : ty b ≠ 12 := fun z => e (ty_u12 z)
      generalize ty b = t at h1 h2 ⊢
      match t, h1, h2 with
      | 0, _, _ => exact trivial
      | 1, h, _ => exact h
      | 2, h, _ => exact h
      | 3, h, _ => exact h
      | 4, h, _ => exact h
      | 5, h, _ => exact h
      | 6, h, _ => exact h
      | 7, h, _ => exact h
      | 8, h, _ => exact h
      | 9, h, _ => exact h
      | 10, h, _ => exact h
      | 11, h, _ => exact h
      | 12, _, nn => exact absurd rfl nn
      | 13, h, _ => exact h
      | 14, h, _ => exact h
      | 15, h, _ => exact h
      | 16, h, _ => exact h
      | n + 17, _, _ => exact trivial
theorem ty_u13 : ∀ b, b < 238 → ty b = 13 → b = 219 := by decide +kernel
theorem tk_S {s1 : Nat} (h : tk Z al ai az mm sk v0 vh) (hs : s1 = 0 ∨ s1 = 2) (hb : vm_but 219 vh v1) (hc : vm_at v1 219 = some (.inr (3, [.ref (220 + s1), .ref (221 + s1), .ref (222 - s1), .ref (223 - s1), .int (vz (Z 219 0))]))) : tk Z al ai az mm s1 v0 v1 := by
  refine ⟨hb.1.trans h.1, fun b q => ?_, ⟨h.2.2.1.1, h.2.2.1.2.1, hs⟩, fun b => ?_⟩
  · rw [hb.2 b (fun e => by subst e; cases q)]; exact h.2.1 b q
  · by_cases e : b = 219
    · subst e; rw [hc]; exact (rfl : some _ = some _)
    · rw [hb.2 b e]
      have h1 := h.2.2.2 b
      have h2 : ty b ≠ 13 := fun z => e (ty_u13 b (ty_lo (by rw [z]; decide)) z)
      generalize ty b = t at h1 h2 ⊢
      match t, h1, h2 with
      | 0, _, _ => exact trivial
      | 1, h, _ => exact h
      | 2, h, _ => exact h
      | 3, h, _ => exact h
      | 4, h, _ => exact h
      | 5, h, _ => exact h
      | 6, h, _ => exact h
      | 7, h, _ => exact h
      | 8, h, _ => exact h
      | 9, h, _ => exact h
      | 10, h, _ => exact h
      | 11, h, _ => exact h
      | 12, h, _ => exact h
      | 13, _, nn => exact absurd rfl nn
      | 14, h, _ => exact h
      | 15, h, _ => exact h
      | 16, h, _ => exact h
      | n + 17, _, _ => exact trivial
end TK
