theorem slp_step {sc sc1 : Nat → Int} {ai ai0 ai1 : Nat → Nat → Int} {al al0 al1 : Nat → Nat → Int64} {az az1 : Nat → Nat → Int32} {s : Nat} (h : ∀ i : Nat, i < 16 → slp ai al al0 i) (hc : ∀ j : Nat, ai0 242 j = ai 242 j) (hk : tmok ai0) (hf : fr [] [] s s sc ai0 al0 az sc1 ai1 al1 az1) (he : slp ai0 al0 al1 s) : ∀ i : Nat, i < 16 → slp ai al al1 i := by
  intro i hi
  have h1 := h i hi
  by_cases q : i = s
  · subst q
    unfold slp at he h1 ⊢
    rw [hc i] at he
    exact he.trans h1
  · have h2 := slp_fr hk hf (i := i) (by omega)
    unfold slp at h2 h1 ⊢
    rw [hc i] at h2
    exact h2.trans h1
theorem cnt_o {ai ai0 ai1 : Nat → Nat → Int} {a i : Nat} {v : Int} (h : ∀ j : Nat, ai0 242 j = ai 242 j) (hd : ai1 = u2 ai0 a i v) (ha : (242 : Nat) ≠ a) : ∀ j : Nat, ai1 242 j = ai 242 j := fun j => by
  rw [hd, u2_a ha]
  exact h j
