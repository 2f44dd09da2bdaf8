/-- n of the 60 places at b hold what they held, in whatever order; all else is as it was -/
def srR (al al1 : Nat → Nat → Int64) (b n : Nat) : Prop := (∀ a, a ≠ 243 ∧ a ≠ 244 → al1 a = al a) ∧ (∀ a j, j < b ∨ b + 60 ≤ j → al1 a j = al a j) ∧ ∀ Q : Int64 → Prop, (∀ t, t < n → Q (al 243 (b + t))) → ∀ t, t < n → Q (al1 243 (b + t))
theorem sr_0 (al : Nat → Nat → Int64) (b n : Nat) : srR al al b n := ⟨fun _ _ => rfl, fun _ _ _ => rfl, fun _ h => h⟩
theorem sr_v {al al0 : Nat → Nat → Int64} {b n : Nat} {x : Int} (h : srR al al0 b n) (hx : (b : Int) ≤ x ∧ x < (b : Int) + n) : ∀ Q : Int64 → Prop, (∀ t, t < n → Q (al 243 (b + t))) → Q (al0 243 x.toNat) := by
  intro Q hQ
  have e : x.toNat = b + (x.toNat - b) := by omega
  rw [e]
  exact h.2.2 Q hQ _ (by omega)
theorem sr_k {al al0 al1 : Nat → Nat → Int64} {b n : Nat} {x : Int} {v : Int64} (h : srR al al0 b n) (hd : al1 = u2 al0 244 x.toNat v) (hx : (b : Int) ≤ x ∧ x < (b : Int) + 60) : srR al al1 b n := by
  subst hd
  refine ⟨fun a q => by rw [u2_af q.2]; exact h.1 a q, fun a j q => by rw [u2_n (by omega)]; exact h.2.1 a j q, fun Q hQ t ht => ?_⟩
  rw [u2_a (by decide)]
  exact h.2.2 Q hQ t ht
theorem sr_w {al al0 al1 : Nat → Nat → Int64} {b n : Nat} {x : Int} {v : Int64} (h : srR al al0 b n) (hd : al1 = u2 al0 243 x.toNat v) (hx : (b : Int) ≤ x ∧ x < (b : Int) + 60) (hv : ∀ Q : Int64 → Prop, (∀ t, t < n → Q (al 243 (b + t))) → Q v) : srR al al1 b n := by
  subst hd
  refine ⟨fun a q => by rw [u2_af q.1]; exact h.1 a q, fun a j q => by rw [u2_n (by omega)]; exact h.2.1 a j q, fun Q hQ t ht => ?_⟩
  by_cases q : b + t = x.toNat
  · rw [q, u2_s]; exact hv Q hQ
  · rw [u2_n q]; exact h.2.2 Q hQ t ht
