theorem u2_n {α : Type} {f : Nat → Nat → α} {a b i j : Nat} {v : α} (h : j ≠ i) : u2 f a i v b j = f b j := if_neg (fun q => h q.2)
/-- 60 places at bt hold, up to n, what those at bf hold; all else is as it was -/
def cpR (al al1 : Nat → Nat → Int64) (bf bt n : Nat) : Prop := (∀ a, a ≠ 243 ∧ a ≠ 244 → al1 a = al a) ∧ (∀ a j, j < bt ∨ bt + 60 ≤ j → al1 a j = al a j) ∧ ∀ t, t < n → al1 243 (bt + t) = al 243 (bf + t) ∧ al1 244 (bt + t) = al 244 (bf + t)
theorem cp_0 (al : Nat → Nat → Int64) (bf bt : Nat) : cpR al al bf bt 0 := ⟨fun _ _ => rfl, fun _ _ _ => rfl, fun t h => absurd h (Nat.not_lt_zero t)⟩
theorem cp_step {al al0 al1 al2 : Nat → Nat → Int64} {i1 i2 x : Int} (ha : 0 ≤ i1) (hb : 0 ≤ i2) (hne : i1 ≠ i2) (h0 : 0 ≤ x) (h6 : x < 60) (h : cpR al al0 (60 * i1).toNat (60 * i2).toNat x.toNat) (h1 : al1 = u2 al0 243 (60 * i2 + x).toNat (al0 243 (60 * i1 + x).toNat)) (h2 : al2 = u2 al1 244 (60 * i2 + x).toNat (al1 244 (60 * i1 + x).toNat)) : cpR al al2 (60 * i1).toNat (60 * i2).toNat (x + 1).toNat := by
  obtain ⟨p1, p2, p3⟩ := h
  have e1 : (60 * i2 + x).toNat = (60 * i2).toNat + x.toNat := by omega
  have e2 : (60 * i1 + x).toNat = (60 * i1).toNat + x.toNat := by omega
  rw [e1, e2] at h1 h2
  have hx : x.toNat < 60 := by omega
  have hs : (60 * i1).toNat + 60 ≤ (60 * i2).toNat ∨ (60 * i2).toNat + 60 ≤ (60 * i1).toNat := by omega
  subst h1
  subst h2
  refine ⟨fun a hq => by rw [u2_af hq.2, u2_af hq.1]; exact p1 a hq, fun a j hj => by rw [u2_n (by omega), u2_n (by omega)]; exact p2 a j hj, fun t ht => ?_⟩
  by_cases q : t = x.toNat
  · subst q
    have f1 := p2 243 ((60 * i1).toNat + x.toNat) (by omega)
    have f2 := p2 244 ((60 * i1).toNat + x.toNat) (by omega)
    refine ⟨?_, ?_⟩
    · rw [u2_a (by decide), u2_s]; exact f1
    · rw [u2_s, u2_a (by decide)]; exact f2
  · have ht' : t < x.toNat := by omega
    rw [u2_n (by omega), u2_n (by omega), u2_n (by omega), u2_n (by omega)]
    exact p3 t ht'
