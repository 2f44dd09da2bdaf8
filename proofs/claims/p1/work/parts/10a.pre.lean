section VMB
variable {d w k pc x y z n : Nat} {ls : vm_L} {st r : List Value} {vh : vm_H} {Post : vm_F → vm_H → Prop}
theorem w_ifb {cd : Jvm.ClassFile.Cond} {off : Int} {a : Int32} (e : vm_ent k pc = some (.ifCond cd off, x, y, z)) (g1 : vm_cond cd a 0 = true → vm_Wp d w k (x, ls, r) vh Post) (g0 : vm_cond cd a 0 = false → vm_Wp d w k (pc + 3, ls, r) vh Post) : vm_Wp d w k (pc, ls, .int a :: r) vh Post := by
  cases h : vm_cond cd a 0 with
  | true => exact w_if1 e h (g1 h)
  | false => exact w_if0 e h (g0 h)
theorem w_icb {cd : Jvm.ClassFile.Cond} {off : Int} {a b : Int32} (e : vm_ent k pc = some (.if_icmp cd off, x, y, z)) (g1 : vm_cond cd a b = true → vm_Wp d w k (x, ls, r) vh Post) (g0 : vm_cond cd a b = false → vm_Wp d w k (pc + 3, ls, r) vh Post) : vm_Wp d w k (pc, ls, .int b :: .int a :: r) vh Post := by
  cases h : vm_cond cd a b with
  | true => exact w_ic1 e h (g1 h)
  | false => exact w_ic0 e h (g0 h)
end VMB
theorem vm_tf (b : Bool) : b = true ∨ b = false := by cases b <;> simp
theorem vm_neg {a b : Int32} {c e : Jvm.ClassFile.Cond} (h : vm_cond c a b = true) (hc : (c = .lt ∧ e = .ge) ∨ (c = .ge ∧ e = .lt) ∨ (c = .gt ∧ e = .le) ∨ (c = .le ∧ e = .gt) ∨ (c = .eq ∧ e = .ne) ∨ (c = .ne ∧ e = .eq) := by decide) : vm_cond e a b = false := by
  rcases hc with ⟨rfl, rfl⟩ | ⟨rfl, rfl⟩ | ⟨rfl, rfl⟩ | ⟨rfl, rfl⟩ | ⟨rfl, rfl⟩ | ⟨rfl, rfl⟩ <;> simp only [vm_cond, decide_eq_true_eq, decide_eq_false_iff_not] at h ⊢
  · exact Int32.not_le.mpr h
  · exact Int32.not_lt.mpr h
  · exact Int32.not_le.mpr h
  · exact Int32.not_lt.mpr h
  · exact fun q => q h
  · exact h
theorem vm_neg0 {a b : Int32} {c e : Jvm.ClassFile.Cond} (h : vm_cond c a b = false) (hc : (c = .lt ∧ e = .ge) ∨ (c = .ge ∧ e = .lt) ∨ (c = .gt ∧ e = .le) ∨ (c = .le ∧ e = .gt) ∨ (c = .eq ∧ e = .ne) ∨ (c = .ne ∧ e = .eq) := by decide) : vm_cond e a b = true := by
  rcases hc with ⟨rfl, rfl⟩ | ⟨rfl, rfl⟩ | ⟨rfl, rfl⟩ | ⟨rfl, rfl⟩ | ⟨rfl, rfl⟩ | ⟨rfl, rfl⟩ <;> simp only [vm_cond, decide_eq_true_eq, decide_eq_false_iff_not] at h ⊢
  · exact Int32.not_lt.mp h
  · exact Int32.not_le.mp h
  · exact Int32.not_lt.mp h
  · exact Int32.not_le.mp h
  · exact h
  · exact Decidable.not_not.mp h
def p_tl (a : Int32) : Int32 := if a.toInt < 0 ∨ 9 < a.toInt then -1 else 0
theorem p_tlO {a : Int32} (h : a.toInt < 0 ∨ ((9 : Nat) : Int) < a.toInt) : p_tl a = -1 := if_pos h
theorem p_tlI {a : Int32} {j : Nat} (h : a = nI j) (hj : j ≤ 9) : p_tl a = 0 := by
  unfold p_tl
  rw [if_neg]
  rw [h, nI_toInt (by omega)]
  omega
theorem p_ne {b : Int64} (h : ¬ b = 0) : vm_cond .ne (lg_cmp b 0) 0 = true := by
  simp only [vm_cond, decide_eq_true_eq, lg_cmp]
  split
  · decide
  · first | decide | (rw [if_neg h]; decide)
theorem p_eq {b : Int64} (h : b = 0) : vm_cond .ne (lg_cmp b 0) 0 = false := by subst h; decide
theorem p_cmp {x y : Int64} (h : x = y) : vm_cond .eq (lg_cmp x y) 0 = true := by
  subst h
  simp [vm_cond, lg_cmp, Int64.lt_irrefl]
def p_a (xs : Nat → Int32) : Int64 := ((xs (Int32.toNatClampNeg (0 + Int32.ofInt 1))).toInt64 <<< ((Int8.ofInt 32).toInt32.toInt64 &&& 63)) ||| ((xs (Int32.toNatClampNeg (0 + Int32.ofInt 2))).toInt64 &&& Int64.ofNat 4294967295)
def p_b (xs : Nat → Int32) : Int64 := ((xs (Int32.toNatClampNeg (0 + Int32.ofInt 3))).toInt64 <<< ((Int8.ofInt 32).toInt32.toInt64 &&& 63)) ||| ((xs (Int32.toNatClampNeg (0 + Int32.ofInt 4))).toInt64 &&& Int64.ofNat 4294967295)
theorem vm_self (c : Jvm.ClassFile.Cond) (a : Int32) (hc : c = .eq ∨ c = .ge ∨ c = .le := by decide) : vm_cond c a a = true := by
  rcases hc with rfl | rfl | rfl <;> simp [vm_cond, Int32.le_refl]
theorem vm_swc (a : Int32) (hi : Nat) (hh : hi < 1000 := by decide) : (a.toInt < 0 ∨ (hi : Int) < a.toInt) ∨ ∃ j : Nat, j ≤ hi ∧ a = nI j := by
  by_cases h1 : a.toInt < 0
  · exact Or.inl (Or.inl h1)
  · by_cases h2 : (hi : Int) < a.toInt
    · exact Or.inl (Or.inr h2)
    · refine Or.inr ⟨a.toInt.toNat, by omega, ?_⟩
      apply Int32.toInt_inj.mp
      rw [nI_toInt (by omega)]
      omega
theorem w_swb {d w k pc : Nat} {ls : vm_L} {r : List Value} {vh : vm_H} {Post : vm_F → vm_H → Prop} {a : Int32} (hi : Nat) (hO : (a.toInt < 0 ∨ (hi : Int) < a.toInt) → vm_Wp d w k (pc, ls, .int a :: r) vh Post) (hI : ∀ j, j ≤ hi → a = nI j → vm_Wp d w k (pc, ls, .int (nI j) :: r) vh Post) (hh : hi < 1000 := by decide) : vm_Wp d w k (pc, ls, .int a :: r) vh Post := by
  rcases vm_swc a hi hh with h | ⟨j, hj, ej⟩
  · exact hO h
  · have h9 := hI j hj ej
    rw [← ej] at h9
    exact h9
