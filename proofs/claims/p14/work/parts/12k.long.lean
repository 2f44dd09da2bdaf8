theorem l_bm {z : Int} (h : -9223372036854775808 ≤ z ∧ z < 9223372036854775808) : z.bmod (2 ^ 64) = z := by
  have e : (2 ^ 64 : Nat) = 18446744073709551616 := by decide
  rw [e, Int.bmod_def]
  split <;> omega
theorem l_neg {x : Int64} (h : -67108864 ≤ x.toInt ∧ x.toInt ≤ 67108864) : (-x).toInt = -x.toInt := by
  rw [Int64.toInt_neg, l_bm (by omega)]
theorem l_lt {x y : Int64} : x < y ↔ x.toInt < y.toInt := Int64.lt_iff_toInt_lt
theorem l_z {x : Int64} : x = Int64.ofNat 0 ↔ x.toInt = 0 := by
  rw [← Int64.toInt_inj]
  exact Iff.rfl
theorem l_div {x y : Int64} (hy : y.toInt ≠ -1) : (x / y).toInt = x.toInt.tdiv y.toInt := Int64.toInt_div_of_ne_right x y (fun e => hy (by rw [e]; rfl))
theorem l_rem {x y : Int64} (hx : 0 ≤ x.toInt) (hy : 0 < y.toInt) : (x - x / y * y).toInt = x.toInt % y.toInt := by
  have hx2 : x.toInt < 9223372036854775808 := Int64.toInt_lt x
  have e1 : (x / y).toInt = x.toInt / y.toInt := by
    rw [l_div (by omega), Int.tdiv_eq_ediv_of_nonneg hx]
  have h0 : 0 ≤ x.toInt / y.toInt := Int.ediv_nonneg hx (Int.le_of_lt hy)
  have h1 : x.toInt / y.toInt * y.toInt ≤ x.toInt := Int.ediv_mul_le _ (by omega)
  have h2 : 0 ≤ x.toInt / y.toInt * y.toInt := Int.mul_nonneg h0 (Int.le_of_lt hy)
  have e2 : (x / y * y).toInt = x.toInt / y.toInt * y.toInt := by
    rw [Int64.toInt_mul, e1, l_bm (by omega)]
  rw [Int64.toInt_sub, e2, l_bm (by omega), Int.emod_def, Int.mul_comm y.toInt]
/-- what is asked of a common divisor here: it is no greater than either that is not 0, and more than 0 if one is not -/
def cmn (g a b : Int) : Prop := 0 ≤ g ∧ (a ≠ 0 → g ≤ a) ∧ (b ≠ 0 → g ≤ b) ∧ (a ≠ 0 ∨ b ≠ 0 → 0 < g)
theorem cm_step {x y g : Int} (hx : 0 ≤ x) (hy : 0 < y) (h : cmn g y (x % y)) : cmn g x y := by
  have h1 := Int.emod_nonneg x (show y ≠ 0 by omega)
  have h2 := Int.emod_lt_of_pos x hy
  have h4 : x < y → x % y = x := fun q => Int.emod_eq_of_lt hx q
  obtain ⟨a1, a2, a3, a4⟩ := h
  have b1 := a2 (by omega)
  have b2 := a4 (Or.inl (by omega))
  refine ⟨a1, fun q => ?_, fun _ => b1, fun _ => b2⟩
  by_cases q2 : x < y
  · have := h4 q2
    have := a3 (by omega)
    omega
  · omega
theorem cm_ge {l : Int64} {q : Int} (h2 : q < 0 ↔ l < Int64.ofNat 0) (h : 0 ≤ q) : 0 ≤ l.toInt := by
  have h3 : ¬ l < Int64.ofNat 0 := fun e => by have := h2.mpr e; omega
  rw [l_lt] at h3
  have e : (Int64.ofNat 0).toInt = 0 := rfl
  omega
theorem cm_lt {l : Int64} {q : Int} (h2 : q < 0 ↔ l < Int64.ofNat 0) (h : q < 0) : l.toInt < 0 := by
  have h3 := h2.mp h
  rw [l_lt] at h3
  exact h3
theorem cm_nz {l : Int64} {q : Int} (h1 : q = 0 ↔ l = Int64.ofNat 0) (h : q ≠ 0) : l.toInt ≠ 0 := fun e => h (h1.mpr (l_z.mpr e))
theorem cm_z {l : Int64} {q : Int} (h1 : q = 0 ↔ l = Int64.ofNat 0) (h : q = 0) : l.toInt = 0 := l_z.mp (h1.mp h)
theorem cm_in {x y a b : Int} (h1 : (x = a ∨ x = -a) ∧ 0 ≤ x) (h2 : (y = b ∨ y = -b) ∧ 0 ≤ y) : ∀ g, cmn g x y → cmn g (a.natAbs : Int) (b.natAbs : Int) := by
  have e1 : x = (a.natAbs : Int) := by omega
  have e2 : y = (b.natAbs : Int) := by omega
  rw [e1, e2]
  exact fun _ h => h
theorem cm_end {x y : Int} (hx : 0 ≤ x) (hy : y = 0) : cmn x x y := ⟨hx, fun _ => Int.le_refl _, fun q => absurd hy q, fun q => by omega⟩
