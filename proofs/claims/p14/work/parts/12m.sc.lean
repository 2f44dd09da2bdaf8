theorem vz_okz {q : Int} (h : 0 ≤ q ∧ q ≤ 1) : vm_okv .boolean (.int (vz q)) = true := by
  rcases vz_01 h.1 h.2 with e | e <;> rw [e] <;> rfl
/-- what forget() leaves of the scalars -/
def fgS (sc : Nat → Int) : Nat → Int := u1 (u1 (u1 (u1 sc 10 0) 11 0) 12 0) 18 0
