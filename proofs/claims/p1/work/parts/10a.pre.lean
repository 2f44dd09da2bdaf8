theorem vm_tf (b : Bool) : b = true ∨ b = false := by cases b <;> simp
theorem vm_neg {a b : Int32} {c e : Jvm.ClassFile.Cond} (h : vm_cond c a b = true) (hc : (c = .lt ∧ e = .ge) ∨ (c = .ge ∧ e = .lt) ∨ (c = .gt ∧ e = .le) ∨ (c = .le ∧ e = .gt) ∨ (c = .eq ∧ e = .ne) ∨ (c = .ne ∧ e = .eq) := by decide) : vm_cond e a b = false := by
  rcases hc with ⟨rfl, rfl⟩ | ⟨rfl, rfl⟩ | ⟨rfl, rfl⟩ | ⟨rfl, rfl⟩ | ⟨rfl, rfl⟩ | ⟨rfl, rfl⟩ <;> simp only [vm_cond, decide_eq_true_eq, decide_eq_false_iff_not] at h ⊢
  · exact Int32.not_le.mpr h
  · exact Int32.not_lt.mpr h
  · exact Int32.not_le.mpr h
  · exact Int32.not_lt.mpr h
  · exact fun q => q h
  · exact h
theorem vm_neg0 {a b : Int32} {c e : Jvm.ClassFile.Cond} (h : vm_cond c a b = false) (hc : (c = .lt ∧ e = .ge) ∨ (c = .ge ∧ e = .lt) ∨ (c = .gt ∧ e = .le) ∨ (c = .le ∧ e = .gt) ∨ (c = .eq ∧ e = .ne) ∨ (c = .ne ∧ e = .eq) := by decide) : vm_cond e a b = true := by
  rcases hc with ⟨rfl, rfl⟩ | ⟨rfl, rfl⟩ | ⟨rfl, rfl⟩ | ⟨rfl, rfl⟩ | ⟨rfl, rfl⟩ | ⟨rfl, rfl⟩ <;> simp only [vm_cond, decide_eq_true_eq, decide_eq_false_iff_not] at h ⊢
  · exact Int32.not_lt.mp h
  · exact Int32.not_le.mp h
  · exact Int32.not_lt.mp h
  · exact Int32.not_le.mp h
  · exact h
  · exact Decidable.not_not.mp h
theorem vm_swc (a : Int32) (hi : Nat) (hh : hi < 1000 := by decide) : (a.toInt < 0 ∨ (hi : Int) < a.toInt) ∨ ∃ j : Nat, j ≤ hi ∧ a = nI j := by
  by_cases h1 : a.toInt < 0
  · exact Or.inl (Or.inl h1)
  · by_cases h2 : (hi : Int) < a.toInt
    · exact Or.inl (Or.inr h2)
    · refine Or.inr ⟨a.toInt.toNat, by omega, ?_⟩
      apply Int32.toInt_inj.mp
      rw [nI_toInt (by omega)]
      omega
