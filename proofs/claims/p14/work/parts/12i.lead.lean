/-- the places from 4200 on hold, up to n, some of what the c places at b hold; all else is as it was -/
def ldR (al al1 : Nat → Nat → Int64) (b c n : Nat) : Prop := (∀ a, a ≠ 243 ∧ a ≠ 244 → al1 a = al a) ∧ (∀ a j, j < 4200 ∨ 4260 ≤ j → al1 a j = al a j) ∧ ∀ Q : Int64 → Prop, (∀ t, t < c → Q (al 243 (b + t))) → ∀ t, t < n → Q (al1 243 (4200 + t))
theorem ld_0 (al : Nat → Nat → Int64) (b c : Nat) : ldR al al b c 0 := ⟨fun _ _ => rfl, fun _ _ _ => rfl, fun _ _ t h => absurd h (Nat.not_lt_zero t)⟩
theorem ld_step {al al0 al1 al2 : Nat → Nat → Int64} {i x y : Int} {c : Nat} {v : Int64} (hi : 0 ≤ i ∧ i ≠ 70) (hx : 0 ≤ x ∧ x < 60) (hy : 0 ≤ y ∧ y < (c : Int) ∧ y < 60) (h : ldR al al0 (60 * i).toNat c x.toNat) (h1 : al1 = u2 al0 243 (4200 + x).toNat (al0 243 (60 * i + y).toNat)) (h2 : al2 = u2 al1 244 (4200 + x).toNat v) : ldR al al2 (60 * i).toNat c (x + 1).toNat := by
  obtain ⟨p1, p2, p3⟩ := h
  have e1 : (4200 + x).toNat = 4200 + x.toNat := by omega
  have e2 : (60 * i + y).toNat = (60 * i).toNat + y.toNat := by omega
  rw [e1] at h1 h2
  rw [e2] at h1
  subst h1
  subst h2
  refine ⟨fun a hq => by rw [u2_af hq.2, u2_af hq.1]; exact p1 a hq, fun a j hj => by rw [u2_n (by omega), u2_n (by omega)]; exact p2 a j hj, fun Q hQ t ht => ?_⟩
  by_cases q : t = x.toNat
  · subst q
    rw [u2_a (by decide), u2_s, p2 243 _ (by omega)]
    exact hQ _ (by omega)
  · rw [u2_n (by omega), u2_n (by omega)]
    exact p3 Q hQ t (by omega)
