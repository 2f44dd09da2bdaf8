/-! When term of the reference forgets: lemmas. -/
def tfR (sc sc1 : Nat → Int) (az : Nat → Nat → Int32) (i : Int) : Prop := (sc1 = u1 sc 0 0 ∧ az 241 i.toNat = 0) ∨ (sc1 = fgS (u1 sc 0 0) ∧ az 241 i.toNat ≠ 0)
theorem tf_s {sc sc1 : Nat → Int} {az : Nat → Nat → Int32} {i : Int} (h : tfR sc sc1 az i) : sc1 1 = sc 1 ∧ sc1 4 = sc 4 := by
  rcases h with ⟨e, _⟩ | ⟨e, _⟩
  · rw [e]; exact ⟨u1_o (by decide), u1_o (by decide)⟩
  · rw [e]; exact ⟨by rw [fgS_o (by decide), u1_o (by decide)], by rw [fgS_o (by decide), u1_o (by decide)]⟩
