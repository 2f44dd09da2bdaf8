/-! The reference's cells: scalars by their field, contents of the arrays by their address. -/
abbrev tm_C : Type := (Nat → Int) × (Nat → Nat → Int) × (Nat → Nat → Int64) × (Nat → Nat → Int32)
def mf (sc : Nat → Int) : List Value := [.int (vz (sc 0)), .int (vz (sc 1)), .ref 239, .ref 240, .int (vz (sc 4)), .ref 241, .ref 242, .ref 243, .ref 244, .ref 245, .int (vz (sc 10)), .int (vz (sc 11)), .int (vz (sc 12)), .int (vz (sc 13)), .int (vz (sc 14)), .int (vz (sc 15)), .int (vz (sc 16)), .int (vz (sc 17)), .int (vz (sc 18)), .int (vz (sc 19)), .ref 246, .ref 247, .ref 248, .ref 249, .ref 250, .int (vz (sc 25)), .ref 251, .int (vz (sc 27)), .int (vz (sc 28)), .ref 252, .ref 253, .ref 254, .ref 255, .ref 256, .ref 257, .ref 258, .ref 259, .ref 260, .int (vz (sc 38)), .ref 261, .int (vz (sc 40)), .int (vz (sc 41)), .int (vz (sc 42)), .ref 262]
def mk_t (a : Nat) : Nat × Nat := match a with
  | 239 => (2, 8)
  | 240 => (0, 8)
  | 241 => (2, 16)
  | 242 => (0, 72)
  | 243 => (1, 4320)
  | 244 => (1, 4320)
  | 245 => (1, 8)
  | 246 => (0, 256)
  | 247 => (0, 256)
  | 248 => (0, 256)
  | 249 => (1, 12300)
  | 250 => (1, 12300)
  | 251 => (0, 8)
  | 252 => (0, 256)
  | 253 => (0, 256)
  | 254 => (0, 256)
  | 255 => (1, 12300)
  | 256 => (1, 12300)
  | 257 => (1, 16384)
  | 258 => (1, 16384)
  | 259 => (2, 16384)
  | 260 => (0, 8000)
  | 261 => (0, 8)
  | 262 => (1, 8)
  | _ => (9, 0)
def mk_c (ai : Nat → Nat → Int) (al : Nat → Nat → Int64) (az : Nat → Nat → Int32) (a : Nat) : va_E := match (mk_t a).1 with
  | 0 => .inl (0, (mk_t a).2, .inl (fun j => vz (ai a j)))
  | 1 => .inl (1, (mk_t a).2, .inr (.inl (al a)))
  | _ => .inl (2, (mk_t a).2, .inl (az a))
def tm (sc : Nat → Int) (ai : Nat → Nat → Int) (al : Nat → Nat → Int64) (az : Nat → Nat → Int32) (v0 vh : vm_H) : Prop := vh.length = v0.length ∧ (∀ a, a < 238 ∨ 263 ≤ a → vm_at vh a = vm_at v0 a) ∧ ((∀ j, -2147483648 ≤ sc j ∧ sc j < 2147483648) ∧ ∀ a j, -2147483648 ≤ ai a j ∧ ai a j < 2147483648) ∧ vm_at vh 238 = some (.inr (6, mf sc)) ∧ ∀ a, 239 ≤ a ∧ a ≤ 262 → vm_at vh a = some (mk_c ai al az a)
def u1 {α : Type} (f : Nat → α) (i : Nat) (v : α) : Nat → α := fun j => if j = i then v else f j
def u2 {α : Type} (f : Nat → Nat → α) (a i : Nat) (v : α) : Nat → Nat → α := fun b j => if b = a ∧ j = i then v else f b j
theorem u1_s {α : Type} {f : Nat → α} {i : Nat} {v : α} : u1 f i v i = v := if_pos rfl
theorem u1_o {α : Type} {f : Nat → α} {i j : Nat} {v : α} (h : j ≠ i) : u1 f i v j = f j := if_neg h
theorem u2_s {α : Type} {f : Nat → Nat → α} {a i : Nat} {v : α} : u2 f a i v a i = v := if_pos ⟨rfl, rfl⟩
theorem u2_o {α : Type} {f : Nat → Nat → α} {a i j : Nat} {v : α} (h : j ≠ i) : u2 f a i v a j = f a j := if_neg (fun q => h q.2)
theorem u2_a {α : Type} {f : Nat → Nat → α} {a b i j : Nat} {v : α} (h : b ≠ a) : u2 f a i v b j = f b j := if_neg (fun q => h q.1)
theorem u2_af {α : Type} {f : Nat → Nat → α} {a b i : Nat} {v : α} (h : b ≠ a) : u2 f a i v b = f b := funext fun _ => u2_a h
section TM
variable {sc : Nat → Int} {ai : Nat → Nat → Int} {al : Nat → Nat → Int64} {az : Nat → Nat → Int32} {v0 vh v1 : vm_H} {a : Nat}
theorem tm_o (h : tm sc ai al az v0 vh) : vm_at vh 238 = some (.inr (6, [.int (vz (sc 0)), .int (vz (sc 1)), .ref 239, .ref 240, .int (vz (sc 4)), .ref 241, .ref 242, .ref 243, .ref 244, .ref 245, .int (vz (sc 10)), .int (vz (sc 11)), .int (vz (sc 12)), .int (vz (sc 13)), .int (vz (sc 14)), .int (vz (sc 15)), .int (vz (sc 16)), .int (vz (sc 17)), .int (vz (sc 18)), .int (vz (sc 19)), .ref 246, .ref 247, .ref 248, .ref 249, .ref 250, .int (vz (sc 25)), .ref 251, .int (vz (sc 27)), .int (vz (sc 28)), .ref 252, .ref 253, .ref 254, .ref 255, .ref 256, .ref 257, .ref 258, .ref 259, .ref 260, .int (vz (sc 38)), .ref 261, .int (vz (sc 40)), .int (vz (sc 41)), .int (vz (sc 42)), .ref 262])) := h.2.2.2.1
theorem tm_s (h : tm sc ai al az v0 vh) (j : Nat) : -2147483648 ≤ sc j ∧ sc j < 2147483648 := h.2.2.1.1 j
theorem tm_r (h : tm sc ai al az v0 vh) (a j : Nat) : -2147483648 ≤ ai a j ∧ ai a j < 2147483648 := h.2.2.1.2 a j
theorem tm_i (h : tm sc ai al az v0 vh) {n : Nat} (ht : mk_t a = (0, n)) : vm_at vh a = some (.inl (0, n, .inl (fun j => vz (ai a j)))) := by
  have ha : 239 ≤ a ∧ a ≤ 262 := by
    by_cases q : 239 ≤ a ∧ a ≤ 262
    · exact q
    · exfalso
      unfold mk_t at ht
      split at ht <;> first | (simp at ht; done) | omega
  rw [h.2.2.2.2 a ha]
  unfold mk_c
  rw [ht]
  rfl
theorem tm_l (h : tm sc ai al az v0 vh) {n : Nat} (ht : mk_t a = (1, n)) : vm_at vh a = some (.inl (1, n, .inr (.inl (al a)))) := by
  have ha : 239 ≤ a ∧ a ≤ 262 := by
    by_cases q : 239 ≤ a ∧ a ≤ 262
    · exact q
    · exfalso
      unfold mk_t at ht
      split at ht <;> first | (simp at ht; done) | omega
  rw [h.2.2.2.2 a ha]
  unfold mk_c
  rw [ht]
  rfl
theorem tm_z (h : tm sc ai al az v0 vh) {n : Nat} (ht : mk_t a = (2, n)) : vm_at vh a = some (.inl (2, n, .inl (az a))) := by
  have ha : 239 ≤ a ∧ a ≤ 262 := by
    by_cases q : 239 ≤ a ∧ a ≤ 262
    · exact q
    · exfalso
      unfold mk_t at ht
      split at ht <;> first | (simp at ht; done) | omega
  rw [h.2.2.2.2 a ha]
  unfold mk_c
  rw [ht]
  rfl
theorem tm_bt (h : mk_t a ≠ (9, 0)) : 239 ≤ a ∧ a ≤ 262 := by
  by_cases q : 239 ≤ a ∧ a ≤ 262
  · exact q
  · exfalso
    apply h
    unfold mk_t
    split <;> first | rfl | omega
/-- a scalar is laid -/
theorem tm_ps {q : Int} (j : Nat) (h : tm sc ai al az v0 vh) (hq : -2147483648 ≤ q ∧ q < 2147483648) (hb : vm_but 238 vh v1) (hc : vm_at v1 238 = some (.inr (6, mf (u1 sc j q)))) : tm (u1 sc j q) ai al az v0 v1 := by
  refine ⟨hb.1.trans h.1, fun b hlo => ?_, ⟨fun i => ?_, h.2.2.1.2⟩, hc, fun b hbd => ?_⟩
  · rw [hb.2 b (by omega)]; exact h.2.1 b hlo
  · unfold u1
    split
    · exact hq
    · exact h.2.2.1.1 i
  · rw [hb.2 b (by omega)]; exact h.2.2.2.2 b hbd
theorem tm_pi {n i : Nat} {q : Int} (h : tm sc ai al az v0 vh) (ht : mk_t a = (0, n)) (hq : -2147483648 ≤ q ∧ q < 2147483648) (hb : vm_but a vh v1) (hc : vm_at v1 a = some (.inl (0, n, .inl (upd (fun j => vz (ai a j)) i (vz q))))) : tm sc (u2 ai a i q) al az v0 v1 := by
  have ha := tm_bt (a := a) (by rw [ht]; intro e; cases e)
  refine ⟨hb.1.trans h.1, fun b hlo => ?_, ⟨h.2.2.1.1, fun b j => ?_⟩, ?_, fun b hbd => ?_⟩
  · rw [hb.2 b (by omega)]; exact h.2.1 b hlo
  · unfold u2
    split
    · exact hq
    · exact h.2.2.1.2 b j
  · rw [hb.2 238 (by omega)]; exact h.2.2.2.1
  · by_cases hab : b = a
    · subst hab
      rw [hc]
      unfold mk_c
      rw [ht]
      have e : upd (fun j => vz (ai b j)) i (vz q) = fun j => vz (u2 ai b i q b j) := by
        funext j
        unfold upd u2
        by_cases hj : j = i
        · simp [hj]
        · simp [hj]
      rw [e]
      rfl
    · rw [hb.2 b hab, h.2.2.2.2 b hbd]
      unfold mk_c
      rw [u2_af hab]
theorem tm_pl {n i : Nat} {q : Int64} (h : tm sc ai al az v0 vh) (ht : mk_t a = (1, n)) (hb : vm_but a vh v1) (hc : vm_at v1 a = some (.inl (1, n, .inr (.inl (vp_updL (al a) i q))))) : tm sc ai (u2 al a i q) az v0 v1 := by
  have ha := tm_bt (a := a) (by rw [ht]; intro e; cases e)
  refine ⟨hb.1.trans h.1, fun b hlo => ?_, h.2.2.1, ?_, fun b hbd => ?_⟩
  · rw [hb.2 b (by omega)]; exact h.2.1 b hlo
  · rw [hb.2 238 (by omega)]; exact h.2.2.2.1
  · by_cases hab : b = a
    · subst hab
      rw [hc]
      unfold mk_c
      rw [ht]
      have e : vp_updL (al b) i q = u2 al b i q b := by
        funext j
        unfold vp_updL u2
        by_cases hj : j = i
        · simp [hj]
        · simp [hj]
      rw [e]
      rfl
    · rw [hb.2 b hab, h.2.2.2.2 b hbd]
      unfold mk_c
      rw [u2_af hab]
theorem tm_pz {n i : Nat} {q : Int32} (h : tm sc ai al az v0 vh) (ht : mk_t a = (2, n)) (hb : vm_but a vh v1) (hc : vm_at v1 a = some (.inl (2, n, .inl (upd (az a) i q)))) : tm sc ai al (u2 az a i q) v0 v1 := by
  have ha := tm_bt (a := a) (by rw [ht]; intro e; cases e)
  refine ⟨hb.1.trans h.1, fun b hlo => ?_, h.2.2.1, ?_, fun b hbd => ?_⟩
  · rw [hb.2 b (by omega)]; exact h.2.1 b hlo
  · rw [hb.2 238 (by omega)]; exact h.2.2.2.1
  · by_cases hab : b = a
    · subst hab
      rw [hc]
      unfold mk_c
      rw [ht]
      have e : upd (az b) i q = u2 az b i q b := by
        funext j
        unfold upd u2
        by_cases hj : j = i
        · simp [hj]
        · simp [hj]
      rw [e]
      rfl
    · rw [hb.2 b hab, h.2.2.2.2 b hbd]
      unfold mk_c
      rw [u2_af hab]
end TM
theorem mf_0 (sc : Nat → Int) (q : Int) : (mf sc).set 0 (.int (vz q)) = mf (u1 sc 0 q) := rfl
theorem mf_1 (sc : Nat → Int) (q : Int) : (mf sc).set 1 (.int (vz q)) = mf (u1 sc 1 q) := rfl
theorem mf_4 (sc : Nat → Int) (q : Int) : (mf sc).set 4 (.int (vz q)) = mf (u1 sc 4 q) := rfl
theorem mf_10 (sc : Nat → Int) (q : Int) : (mf sc).set 10 (.int (vz q)) = mf (u1 sc 10 q) := rfl
theorem mf_11 (sc : Nat → Int) (q : Int) : (mf sc).set 11 (.int (vz q)) = mf (u1 sc 11 q) := rfl
theorem mf_12 (sc : Nat → Int) (q : Int) : (mf sc).set 12 (.int (vz q)) = mf (u1 sc 12 q) := rfl
theorem mf_13 (sc : Nat → Int) (q : Int) : (mf sc).set 13 (.int (vz q)) = mf (u1 sc 13 q) := rfl
theorem mf_14 (sc : Nat → Int) (q : Int) : (mf sc).set 14 (.int (vz q)) = mf (u1 sc 14 q) := rfl
theorem mf_15 (sc : Nat → Int) (q : Int) : (mf sc).set 15 (.int (vz q)) = mf (u1 sc 15 q) := rfl
theorem mf_16 (sc : Nat → Int) (q : Int) : (mf sc).set 16 (.int (vz q)) = mf (u1 sc 16 q) := rfl
theorem mf_17 (sc : Nat → Int) (q : Int) : (mf sc).set 17 (.int (vz q)) = mf (u1 sc 17 q) := rfl
theorem mf_18 (sc : Nat → Int) (q : Int) : (mf sc).set 18 (.int (vz q)) = mf (u1 sc 18 q) := rfl
theorem mf_19 (sc : Nat → Int) (q : Int) : (mf sc).set 19 (.int (vz q)) = mf (u1 sc 19 q) := rfl
theorem mf_25 (sc : Nat → Int) (q : Int) : (mf sc).set 25 (.int (vz q)) = mf (u1 sc 25 q) := rfl
theorem mf_27 (sc : Nat → Int) (q : Int) : (mf sc).set 27 (.int (vz q)) = mf (u1 sc 27 q) := rfl
theorem mf_28 (sc : Nat → Int) (q : Int) : (mf sc).set 28 (.int (vz q)) = mf (u1 sc 28 q) := rfl
theorem mf_38 (sc : Nat → Int) (q : Int) : (mf sc).set 38 (.int (vz q)) = mf (u1 sc 38 q) := rfl
theorem mf_40 (sc : Nat → Int) (q : Int) : (mf sc).set 40 (.int (vz q)) = mf (u1 sc 40 q) := rfl
theorem mf_41 (sc : Nat → Int) (q : Int) : (mf sc).set 41 (.int (vz q)) = mf (u1 sc 41 q) := rfl
theorem mf_42 (sc : Nat → Int) (q : Int) : (mf sc).set 42 (.int (vz q)) = mf (u1 sc 42 q) := rfl
