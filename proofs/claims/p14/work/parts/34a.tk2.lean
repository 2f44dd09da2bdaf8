/-! More cells of the class that change: places, hypotheses, the point, whole polynomials. -/
section TK2
variable {Z Z1 : Nat → Nat → Int} {al al1 : Nat → Nat → Int64} {ai ai1 : Nat → Nat → Int} {az az1 : Nat → Nat → Int32} {mm : Nat → Option Nat} {sk : Nat} {v0 vh v1 : vm_H} {a : Nat}
theorem tk_pnt (h : tk Z al ai az mm sk v0 vh) : vm_at vh 4 = some (.inl (1, 8, .inr (.inl (al 4)))) := h.at (a := 4) (t := 6) rfl
theorem tk_Zpl {q : Int} (h : tk Z al ai az mm sk v0 vh) (hq : -2147483648 ≤ q ∧ q < 2147483648) (hb : vm_but 2 vh v1) (hc : vm_at v1 2 = some (.inr (0, [.int (vz q), .ref 3, .ref 4, .ref 5]))) : tk (u2 Z 2 0 q) al ai az mm sk v0 v1 := tk_uZ h hq hb hc (t := 4) rfl (by decide) (by show some _ = some _; rw [u2_s])
theorem tk_Zm0 {q : Int} (h : tk Z al ai az mm sk v0 vh) (hq : -2147483648 ≤ q ∧ q < 2147483648) (hb : vm_but 1 vh v1) (hc : vm_at v1 1 = some (.inr (5, [.ref 2, .ref 6, .ref 55, .int (vz q), .ref 56, .int (vz (Z 1 1)), .ref 217, .ref 219, .ref 224, .ref 227, .ref 230, .ref 233, .ref 234, .ref 237, .int (vz (Z 1 2)), .int (vz (Z 1 3)), .int (vz (Z 1 4)), .int (vz (Z 1 5))]))) : tk (u2 Z 1 0 q) al ai az mm sk v0 v1 := tk_uZ h hq hb hc (t := 16) rfl (by decide) (by show some _ = some _; rw [u2_s, u2_o (by decide), u2_o (by decide), u2_o (by decide), u2_o (by decide), u2_o (by decide)])
theorem upd_u2 {f : Nat → Nat → Int32} {a i : Nat} {w : Int32} : upd (f a) i w = u2 f a i w a := by
  funext j
  unfold upd u2
  by_cases hj : j = i
  · rw [if_pos hj, if_pos ⟨rfl, hj⟩]
  · rw [if_neg hj, if_neg (fun z => hj z.2)]
theorem tk_F {i : Nat} {w : Int32} (h : tk Z al ai az mm sk v0 vh) (hb : vm_but 3 vh v1) (hc : vm_at v1 3 = some (.inl (2, 8, .inl (upd (az 3) i w)))) : tk Z al ai (u2 az 3 i w) mm sk v0 v1 :=
  tk_upd h hb hc (t := 5) rfl (by decide) (fun _ _ => rfl) (fun _ _ => rfl) (fun _ _ => rfl) (fun _ e => u2_af e) ⟨h.2.2.1.1 3, h.2.2.1.2.1 3⟩ (by show some _ = some _; rw [upd_u2])
theorem tk_H {i : Nat} {w : Int32} (h : tk Z al ai az mm sk v0 vh) (hb : vm_but 55 vh v1) (hc : vm_at v1 55 = some (.inl (2, 16, .inl (upd (az 55) i w)))) : tk Z al ai (u2 az 55 i w) mm sk v0 v1 :=
  tk_upd h hb hc (t := 9) rfl (by decide) (fun _ _ => rfl) (fun _ _ => rfl) (fun _ _ => rfl) (fun _ e => u2_af e) ⟨h.2.2.1.1 55, h.2.2.1.2.1 55⟩ (by show some _ = some _; rw [upd_u2])
theorem tk_V {i : Nat} {q : Int} (h : tk Z al ai az mm sk v0 vh) (hq : -2147483648 ≤ q ∧ q < 2147483648) (hb : vm_but 5 vh v1) (hc : vm_at v1 5 = some (.inl (0, 8, .inl (upd (fun j => vz (ai 5 j)) i (vz q))))) : tk Z al (u2 ai 5 i q) az mm sk v0 v1 :=
  tk_upd h hb hc (t := 7) rfl (by decide) (fun _ _ => rfl) (fun _ _ => rfl) (fun _ e => u2_af e) (fun _ _ => rfl) ⟨h.2.2.1.1 5, u2_rng h.2.2.1.2.1 hq⟩ (by
    show some (Sum.inl (0, 8, Sum.inl (upd (fun j => vz (ai 5 j)) i (vz q)))) = some (Sum.inl (0, 8, Sum.inl (fun j => vz (u2 ai 5 i q 5 j))))
    have e : upd (fun j => vz (ai 5 j)) i (vz q) = fun j => vz (u2 ai 5 i q 5 j) := by
      funext j
      unfold upd u2
      by_cases hj : j = i
      · rw [if_pos hj, if_pos ⟨rfl, hj⟩]
      · rw [if_neg hj, if_neg (fun z => hj z.2)]
    rw [e])
theorem tk_P {g : Nat → Int64} (h : tk Z al ai az mm sk v0 vh) (hb : vm_but 4 vh v1) (hc : vm_at v1 4 = some (.inl (1, 8, .inr (.inl g)))) : tk Z (uA al 4 g) ai az mm sk v0 v1 :=
  tk_upd h hb hc (t := 6) rfl (by decide) (fun _ _ => rfl) (fun _ e => uA_o e) (fun _ _ => rfl) (fun _ _ => rfl) ⟨h.2.2.1.1 4, h.2.2.1.2.1 4⟩ (by show some _ = some _; rw [uA_s])
/-- a polynomial, whole -/
theorem pm_in (h : tk Z al ai az mm sk v0 vh) (ha : ty a = 1) : pm a (Z a 0) (al (a + 1)) (al (a + 2)) vh vh := ⟨rfl, fun _ _ _ _ => rfl, tk_poly h ha, tk_l60 h (ty_p ha).1, tk_l60 h (ty_p ha).2⟩
def uP (al : Nat → Nat → Int64) (a : Nat) (K F : Nat → Int64) : Nat → Nat → Int64 := uA (uA al (a + 1) K) (a + 2) F
theorem uP_1 {K F : Nat → Int64} : uP al a K F (a + 1) = K := by unfold uP; rw [uA_o (by omega), uA_s]
theorem uP_2 {K F : Nat → Int64} : uP al a K F (a + 2) = F := by unfold uP; rw [uA_s]
theorem uP_o {K F : Nat → Int64} {b : Nat} (h1 : b ≠ a + 1) (h2 : b ≠ a + 2) : uP al a K F b = al b := by unfold uP; rw [uA_o h2, uA_o h1]
theorem tk_pm {n : Int} {K F : Nat → Int64} (h : tk Z al ai az mm sk v0 vh) (ha : ty a = 1) (hn : -2147483648 ≤ n ∧ n < 2147483648) (hp : pm a n K F vh v1) : tk (u2 Z a 0 n) (uP al a K F) ai az mm sk v0 v1 := by
  have h1 := ty_p ha
  refine ⟨hp.1.trans h.1, fun b q => ?_, ⟨fun b j => ?_, h.2.2.1.2.1, h.2.2.1.2.2⟩, fun b => ?_⟩
  · rw [hp.2.1 b (fun e => by rw [e, ha] at q; cases q) (fun e => by rw [e, h1.1] at q; cases q) (fun e => by rw [e, h1.2] at q; cases q)]; exact h.2.1 b q
  · unfold u2
    split
    · exact hn
    · exact h.2.2.1.1 b j
  · by_cases e1 : b = a
    · subst e1
      rw [hp.2.2.1, ha]
      show some _ = some _
      rw [u2_s]
    · by_cases e2 : b = a + 1
      · subst e2
        rw [hp.2.2.2.1, h1.1]
        show some _ = some _
        rw [uP_1]
      · by_cases e3 : b = a + 2
        · subst e3
          rw [hp.2.2.2.2, h1.2]
          show some _ = some _
          rw [uP_2]
        · rw [hp.2.1 b e1 e2 e3, u2_af e1, uP_o e2 e3]
          exact h.2.2.2 b
theorem tk_5 (h : tk Z al ai az mm sk v0 vh) : vm_at vh 5 = some (.inl (0, 8, .inl (fun j => vz (ai 5 j)))) := tk_vars h
end TK2
theorem u2_self {α : Type} {Z : Nat → Nat → α} {a j : Nat} : u2 Z a j (Z a j) = Z := by
  funext b i
  unfold u2
  by_cases e : b = a ∧ i = j
  · rw [if_pos e, e.1, e.2]
  · rw [if_neg e]
theorem cpy_vz {f g : Nat → Int} {s d n : Nat} : va_cpy (fun j => vz (f j)) (fun j => vz (g j)) s d n = fun j => vz (va_cpy f g s d n j) := by
  funext j
  unfold va_cpy
  split <;> rfl
/-- a variable is added -/
def apO (Z Z1 : Nat → Nat → Int) (ai ai1 : Nat → Nat → Int) (az az1 : Nat → Nat → Int32) (i q : Int) : Prop := (Z 2 0 = 8 ∧ q = -1 ∧ Z1 = Z ∧ ai1 = ai ∧ az1 = az) ∨ (Z 2 0 < 8 ∧ q = Z 2 0 ∧ Z1 = u2 Z 2 0 (Z 2 0 + 1) ∧ ai1 = u2 ai 5 (Z 2 0).toNat (Z 2 0) ∧ az1 = u2 az 3 (Z 2 0).toNat (vz i &&& 1))
theorem apO_b {Z Z1 : Nat → Nat → Int} {ai ai1 : Nat → Nat → Int} {az az1 : Nat → Nat → Int32} {i q : Int} (h : apO Z Z1 ai ai1 az az1 i q) : (q = -1 ∧ Z 2 0 = 8) ∨ (q = Z 2 0 ∧ Z 2 0 < 8) := by
  rcases h with h | h
  · exact Or.inl ⟨h.2.1, h.1⟩
  · exact Or.inr ⟨h.2.1, h.1⟩
/-- the set is forgotten -/
def fgO (Z Z1 : Nat → Nat → Int) (ai ai1 : Nat → Nat → Int) : Prop := Z1 = u2 (u2 (u2 Z 217 0 0) 227 0 0) 230 0 0 ∧ ∀ b, b ≠ 233 → ai1 b = ai b
/-- a variable goes elsewhere -/
def mvF (V : Nat → Int) (f t : Nat) : Nat → Int := fun p => if f ≤ p ∧ p < t then V (p + 1) else if t < p ∧ p ≤ f then V (p - 1) else if p = t then V f else V p
section MV
variable {ai ai1 ai2 : Nat → Nat → Int} {i1 i2 x v : Int} {m : Nat}
def mvA (ai ai1 : Nat → Nat → Int) (f : Nat) (x : Int) : Prop := (∀ b, b ≠ 5 → ai1 b = ai b) ∧ ∀ p : Nat, ai1 5 p = if f ≤ p ∧ (p : Int) < x then ai 5 (p + 1) else ai 5 p
def mvB (ai ai1 : Nat → Nat → Int) (f t : Nat) (x : Int) : Prop := (∀ b, b ≠ 5 → ai1 b = ai b) ∧ ((f ≤ t ∧ x = (f : Int) ∧ ∀ p : Nat, ai1 5 p = if f ≤ p ∧ p < t then ai 5 (p + 1) else ai 5 p) ∨ (t < f ∧ ∀ p : Nat, ai1 5 p = if x < (p : Int) ∧ p ≤ f then ai 5 (p - 1) else ai 5 p))
theorem mvA_0 {f : Nat} (hx : x = (f : Int)) : mvA ai ai f x := ⟨fun _ _ => rfl, fun p => by rw [if_neg (by omega)]⟩
theorem mvA_s {f : Nat} (h : mvA ai ai1 f x) (h0 : (f : Int) ≤ x) (hm : m = x.toNat) (hv : v = ai1 5 (x + 1).toNat) (e : ai2 = u2 ai1 5 m v) : mvA ai ai2 f (x + 1) := by
  subst hm
  refine ⟨fun b hb => by rw [e, u2_af hb]; exact h.1 b hb, fun p => ?_⟩
  by_cases q : p = x.toNat
  · rw [q, e, u2_s, hv, h.2, if_neg (by omega), if_pos (by omega), show (x + 1).toNat = x.toNat + 1 by omega]
  · rw [e, u2_o q, h.2]
    by_cases q2 : f ≤ p ∧ (p : Int) < x
    · rw [if_pos q2, if_pos (by omega)]
    · rw [if_neg q2, if_neg (by omega)]
theorem mvB_0 {f t : Nat} {y : Int} (h : mvA ai ai1 f x) (h0 : (f : Int) ≤ x) (ht : (t : Int) ≤ x) (hx : x ≤ (t : Int) ∨ x = (f : Int)) (hy : y = (f : Int)) : mvB ai ai1 f t y := by
  subst hy
  refine ⟨h.1, ?_⟩
  by_cases q : f ≤ t
  · refine Or.inl ⟨q, rfl, fun p => ?_⟩
    rw [h.2]
    by_cases q2 : f ≤ p ∧ (p : Int) < x
    · rw [if_pos q2, if_pos (by omega)]
    · rw [if_neg q2, if_neg (by omega)]
  · refine Or.inr ⟨by omega, fun p => ?_⟩
    rw [h.2, if_neg (by omega), if_neg (by omega)]
theorem mvB_s {f t : Nat} (h : mvB ai ai1 f t x) (h0 : (t : Int) < x) (hf : x ≤ (f : Int)) (hm : m = x.toNat) (hv : v = ai1 5 (x - 1).toNat) (e : ai2 = u2 ai1 5 m v) : mvB ai ai2 f t (x + -1) := by
  subst hm
  refine ⟨fun b hb => by rw [e, u2_af hb]; exact h.1 b hb, ?_⟩
  rcases h.2 with h2 | ⟨h2, h3⟩
  · omega
  · refine Or.inr ⟨h2, fun p => ?_⟩
    by_cases q : p = x.toNat
    · rw [q, e, u2_s, hv, h3, if_neg (by omega), if_pos (by omega), show (x - 1).toNat = x.toNat - 1 by omega]
    · rw [e, u2_o q, h3]
      by_cases q2 : x < (p : Int) ∧ p ≤ f
      · rw [if_pos q2, if_pos (by omega)]
      · rw [if_neg q2, if_neg (by omega)]
theorem mvF_b {V : Nat → Int} {f t : Nat} (h : ∀ j, 0 ≤ V j ∧ V j < 8) : ∀ j, 0 ≤ mvF V f t j ∧ mvF V f t j < 8 := fun j => by
  unfold mvF
  split
  · exact h _
  · split
    · exact h _
    · split
      · exact h _
      · exact h _
theorem mvB_e {f t : Nat} (h : mvB ai ai1 f t x) (h0 : x ≤ (t : Int)) (ht : f ≤ t ∨ x = (t : Int)) (hv : v = ai 5 f) (e : ai2 = u2 ai1 5 t v) : (∀ b, b ≠ 5 → ai2 b = ai b) ∧ ai2 5 = mvF (ai 5) f t := by
  refine ⟨fun b hb => by rw [e, u2_af hb]; exact h.1 b hb, ?_⟩
  funext p
  unfold mvF
  by_cases q : p = t
  · rw [q, e, u2_s, if_neg (by omega), if_neg (by omega), if_pos rfl, hv]
  · rw [e, u2_o q]
    rcases h.2 with ⟨h2, h3, h4⟩ | ⟨h2, h3⟩
    · rw [h4]
      by_cases q2 : f ≤ p ∧ p < t
      · rw [if_pos q2, if_pos q2]
      · rw [if_neg q2, if_neg q2, if_neg (by omega), if_neg q]
    · rw [h3, if_neg (c := f ≤ p ∧ p < t) (by omega)]
      by_cases q2 : x < (p : Int) ∧ p ≤ f
      · rw [if_pos q2, if_pos (by omega)]
      · rw [if_neg q2, if_neg (by omega), if_neg q]
end MV
theorem c5b {nv q i1 : Int} {V : Nat → Int} (h : (0 ≤ q ∧ q < nv ∧ V q.toNat = i1) ∨ (q = -1 ∧ ∀ j : Nat, (j : Int) < nv → V j ≠ i1)) : (0 ≤ q ∧ q < nv) ∨ q = -1 := by
  rcases h with h | h
  · exact Or.inl ⟨h.1, h.2.1⟩
  · exact Or.inr h.1
theorem pl_in {nv q i1 : Int} {V : Nat → Int} (h : (0 ≤ q ∧ q < nv ∧ V q.toNat = i1) ∨ (q = -1 ∧ ∀ j : Nat, (j : Int) < nv → V j ≠ i1)) (h0 : q ≠ -1) : (0 ≤ q ∧ q < nv) ∧ V q.toNat = i1 := by
  rcases h with h | h
  · exact ⟨⟨h.1, h.2.1⟩, h.2.2⟩
  · exact absurd h.1 h0
theorem pl_no {nv q i1 : Int} {V : Nat → Int} (h : (0 ≤ q ∧ q < nv ∧ V q.toNat = i1) ∨ (q = -1 ∧ ∀ j : Nat, (j : Int) < nv → V j ≠ i1)) (h0 : q = -1) : ∀ j : Nat, (j : Int) < nv → V j ≠ i1 := by
  rcases h with h | h
  · omega
  · exact h.2
theorem adr_b {n m q t : Int} {K F K1 F1 : Nat → Int64} {key v : Int64} (h : adr n K F key v q m K1 F1 t) (hn : 0 ≤ n ∧ n ≤ 60) : (0 ≤ m ∧ m ≤ 60) ∧ (0 ≤ q ∧ q ≤ 1) := by
  rcases h with ⟨h1, h2, _⟩ | ⟨_, h3, h4⟩
  · omega
  · have h5 := h3.1
    rcases h4 with ⟨h1, h2, _⟩ | ⟨h1, _, _, h2, h6, _⟩ | ⟨h1, _, _, _, h2, _⟩ | ⟨h1, ⟨h2, _⟩, _, h6, _⟩
    · omega
    · omega
    · omega
    · omega
theorem cpy_r {f g : Nat → Int} {s d n : Nat} (h1 : ∀ j, -2147483648 ≤ f j ∧ f j < 2147483648) (h2 : ∀ j, -2147483648 ≤ g j ∧ g j < 2147483648) : ∀ j, -2147483648 ≤ va_cpy f g s d n j ∧ va_cpy f g s d n j < 2147483648 := fun j => by
  unfold va_cpy
  split
  · exact h1 _
  · exact h2 _
/-! The keys are laid anew when a variable moves. -/
def mk1 (Z : Nat → Nat → Int) (V : Nat → Int) (al al1 : Nat → Nat → Int64) (x : Int) : Prop := ∀ i : Nat, i < 16 → al1 (7 + 3 * i + 2) = al (7 + 3 * i + 2) ∧ ((i : Int) < x → ∀ t : Nat, (t : Int) < Z (7 + 3 * i) 0 → al1 (7 + 3 * i + 1) t = Int32.toInt64 (pof V (al (7 + 3 * i + 1) t) (Z 2 0).toNat)) ∧ (x ≤ (i : Int) → al1 (7 + 3 * i + 1) = al (7 + 3 * i + 1))
def mk2 (Z : Nat → Nat → Int) (V V1 : Nat → Int) (al al1 : Nat → Nat → Int64) (n x : Int) : Prop := ∀ i : Nat, i < 16 → ((i : Int) < x → (ls (fun t => (al1 (7 + 3 * i + 1) t, al1 (7 + 3 * i + 2) t)) (Z (7 + 3 * i) 0).toNat).Perm (ls (fun t => (kof V1 (pof V (al (7 + 3 * i + 1) t) (Z 2 0).toNat) (Z 2 0).toNat, al (7 + 3 * i + 2) t)) (Z (7 + 3 * i) 0).toNat) ∧ srt (al1 (7 + 3 * i + 1)) (Z (7 + 3 * i) 0)) ∧ (x ≤ (i : Int) → (i : Int) < n → al1 (7 + 3 * i + 2) = al (7 + 3 * i + 2) ∧ ∀ t : Nat, (t : Int) < Z (7 + 3 * i) 0 → al1 (7 + 3 * i + 1) t = Int32.toInt64 (pof V (al (7 + 3 * i + 1) t) (Z 2 0).toNat))
section MK
variable {Z : Nat → Nat → Int} {V V1 : Nat → Int} {al al1 al2 : Nat → Nat → Int64} {n x : Int} {K F : Nat → Int64}
theorem mk1_0 : mk1 Z V al al 0 := fun i hi => ⟨rfl, fun h => by omega, fun _ => rfl⟩
theorem mk1_s (h : mk1 Z V al al1 x) (h0 : 0 ≤ x ∧ x < 16) (hK : ∀ j : Nat, (j : Int) < Z (7 + 3 * x.toNat) 0 → K j = Int32.toInt64 (pof V (al1 (7 + 3 * x.toNat + 1) j) (Z 2 0).toNat)) (e : al2 = uP al1 (7 + 3 * x.toNat) K (al1 (7 + 3 * x.toNat + 2))) : mk1 Z V al al2 (x + 1) := fun i hi => by
  have h1 := h i hi
  by_cases q : i = x.toNat
  · subst q
    refine ⟨by rw [e, uP_2]; exact h1.1, fun _ t ht => ?_, fun h9 => by omega⟩
    rw [e, uP_1, hK t ht, h1.2.2 (by omega)]
  · refine ⟨by rw [e, uP_o (by omega) (by omega)]; exact h1.1, fun h9 t ht => ?_, fun h9 => ?_⟩
    · rw [e, uP_o (by omega) (by omega)]; exact h1.2.1 (by omega) t ht
    · rw [e, uP_o (by omega) (by omega)]; exact h1.2.2 (by omega)
theorem mk1_c (h : mk1 Z V al al1 x) (e : al2 = uP al1 224 K F) : mk1 Z V al al2 x := fun i hi => by
  have h1 := h i hi
  have e1 : al2 (7 + 3 * i + 1) = al1 (7 + 3 * i + 1) := by rw [e, uP_o (by omega) (by omega)]
  have e2 : al2 (7 + 3 * i + 2) = al1 (7 + 3 * i + 2) := by rw [e, uP_o (by omega) (by omega)]
  rw [e1, e2]
  exact h1
theorem mk2_0 (h : mk1 Z V al al1 n) : mk2 Z V V1 al al1 n 0 := fun i hi => ⟨fun h9 => by omega, fun _ h9 => ⟨(h i hi).1, (h i hi).2.1 h9⟩⟩
theorem mk2_s (h : mk2 Z V V1 al al1 n x) (h0 : 0 ≤ x ∧ x < n) (hP : (ls (fun t => (K t, F t)) (Z (7 + 3 * x.toNat) 0).toNat).Perm (ls (fun t => (kof V1 (al1 (7 + 3 * x.toNat + 1) t).toInt32 (Z 2 0).toNat, al1 (7 + 3 * x.toNat + 2) t)) (Z (7 + 3 * x.toNat) 0).toNat)) (hS : srt K (Z (7 + 3 * x.toNat) 0)) (e : al2 = uP al1 (7 + 3 * x.toNat) K F) : mk2 Z V V1 al al2 n (x + 1) := fun i hi => by
  have h1 := h i hi
  by_cases q : i = x.toNat
  · subst q
    refine ⟨fun _ => ?_, fun h9 => by omega⟩
    have e1 : al2 (7 + 3 * x.toNat + 1) = K := by rw [e, uP_1]
    have e2 : al2 (7 + 3 * x.toNat + 2) = F := by rw [e, uP_2]
    rw [e1, e2]
    refine ⟨?_, hS⟩
    have h2 := h1.2 (by omega) (by omega)
    have e3 : ls (fun t => (kof V1 (al1 (7 + 3 * x.toNat + 1) t).toInt32 (Z 2 0).toNat, al1 (7 + 3 * x.toNat + 2) t)) (Z (7 + 3 * x.toNat) 0).toNat = ls (fun t => (kof V1 (pof V (al (7 + 3 * x.toNat + 1) t) (Z 2 0).toNat) (Z 2 0).toNat, al (7 + 3 * x.toNat + 2) t)) (Z (7 + 3 * x.toNat) 0).toNat := ls_cg _ fun t ht => by
      rw [h2.2 t (by omega), h2.1, Int32.toInt32_toInt64]
    rw [← e3]
    exact hP
  · have e1 : al2 (7 + 3 * i + 1) = al1 (7 + 3 * i + 1) := by rw [e, uP_o (by omega) (by omega)]
    have e2 : al2 (7 + 3 * i + 2) = al1 (7 + 3 * i + 2) := by rw [e, uP_o (by omega) (by omega)]
    rw [e1, e2]
    exact ⟨fun h9 => h1.1 (by omega), fun h9 h8 => h1.2 (by omega) h8⟩
theorem mk2_c (h : mk2 Z V V1 al al1 n x) (e : al2 = uP al1 224 K F) : mk2 Z V V1 al al2 n x := fun i hi => by
  have h1 := h i hi
  have e1 : al2 (7 + 3 * i + 1) = al1 (7 + 3 * i + 1) := by rw [e, uP_o (by omega) (by omega)]
  have e2 : al2 (7 + 3 * i + 2) = al1 (7 + 3 * i + 2) := by rw [e, uP_o (by omega) (by omega)]
  rw [e1, e2]
  exact h1
end MK
