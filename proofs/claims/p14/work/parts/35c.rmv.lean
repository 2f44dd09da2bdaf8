/-! Order, variable, use, polynomial of the reference: lemmas. -/
theorem fgS_o {sc : Nat → Int} {j : Nat} (h : j ≠ 10 ∧ j ≠ 11 ∧ j ≠ 12 ∧ j ≠ 18) : fgS sc j = sc j := by
  unfold fgS
  rw [u1_o h.2.2.2, u1_o h.2.2.1, u1_o h.2.1, u1_o h.1]
section MW
variable {sc : Nat → Int} {ai ai1 ai2 : Nat → Nat → Int} {al al1 al2 : Nat → Nat → Int64} {i1 i2 x v : Int} {m f : Nat}
/-- between the moves: x is where the gap stands, f where it was -/
def mwA (ai ai1 : Nat → Nat → Int) (f : Nat) (x : Int) : Prop := (∀ b, b ≠ 240 → ai1 b = ai b) ∧ ∀ p : Nat, ai1 240 p = if f ≤ p ∧ (p : Int) < x then ai 240 (p + 1) else ai 240 p
def mwB (ai ai1 : Nat → Nat → Int) (f t : Nat) (x : Int) : Prop := (∀ b, b ≠ 240 → ai1 b = ai b) ∧ ((f ≤ t ∧ x = (t : Int) ∧ ∀ p : Nat, ai1 240 p = if f ≤ p ∧ p < t then ai 240 (p + 1) else ai 240 p) ∨ (t < f ∧ ∀ p : Nat, ai1 240 p = if x < (p : Int) ∧ p ≤ f then ai 240 (p - 1) else ai 240 p))
theorem mwA_0 (hx : x = (f : Int)) : mwA ai ai f x := ⟨fun _ _ => rfl, fun p => by rw [if_neg (by omega)]⟩
theorem mwA_s (h : mwA ai ai1 f x) (h0 : (f : Int) ≤ x) (hm : m = x.toNat) (hv : v = ai1 240 (x + 1).toNat) (e : ai2 = u2 ai1 240 m v) : mwA ai ai2 f (x + 1) := by
  subst hm
  refine ⟨fun b hb => by rw [e, u2_af hb]; exact h.1 b hb, fun p => ?_⟩
  by_cases q : p = x.toNat
  · rw [q, e, u2_s, hv, h.2, if_neg (by omega), if_pos (by omega), show (x + 1).toNat = x.toNat + 1 by omega]
  · rw [e, u2_o q, h.2]
    by_cases q2 : f ≤ p ∧ (p : Int) < x
    · rw [if_pos q2, if_pos (by omega)]
    · rw [if_neg q2, if_neg (by omega)]
theorem mwB_0 {t : Nat} (h : mwA ai ai1 f x) (h0 : (f : Int) ≤ x) (ht : (t : Int) ≤ x) (hx : x ≤ (t : Int) ∨ x = (f : Int)) : mwB ai ai1 f t x := by
  refine ⟨h.1, ?_⟩
  by_cases q : f ≤ t
  · refine Or.inl ⟨q, by omega, fun p => ?_⟩
    rw [h.2]
    by_cases q2 : f ≤ p ∧ (p : Int) < x
    · rw [if_pos q2, if_pos (by omega)]
    · rw [if_neg q2, if_neg (by omega)]
  · refine Or.inr ⟨by omega, fun p => ?_⟩
    rw [h.2, if_neg (by omega), if_neg (by omega)]
theorem mwB_s {t : Nat} (h : mwB ai ai1 f t x) (h0 : (t : Int) < x) (hf : x ≤ (f : Int)) (hm : m = x.toNat) (hv : v = ai1 240 (x - 1).toNat) (e : ai2 = u2 ai1 240 m v) : mwB ai ai2 f t (x + -1) := by
  subst hm
  refine ⟨fun b hb => by rw [e, u2_af hb]; exact h.1 b hb, ?_⟩
  rcases h.2 with h2 | ⟨h2, h3⟩
  · omega
  · refine Or.inr ⟨h2, fun p => ?_⟩
    by_cases q : p = x.toNat
    · rw [q, e, u2_s, hv, h3, if_neg (by omega), if_pos (by omega), show (x - 1).toNat = x.toNat - 1 by omega]
    · rw [e, u2_o q, h3]
      by_cases q2 : x < (p : Int) ∧ p ≤ f
      · rw [if_pos q2, if_pos (by omega)]
      · rw [if_neg q2, if_neg (by omega)]
theorem mwB_e {t : Nat} (h : mwB ai ai1 f t x) (h0 : x ≤ (t : Int)) (ht : f ≤ t ∨ x = (t : Int)) (hm : m = t) (hv : v = ai 240 f) (e : ai2 = u2 ai1 240 m v) : (∀ b, b ≠ 240 → ai2 b = ai b) ∧ ai2 240 = mvF (ai 240) f t := by
  subst hm
  refine ⟨fun b hb => by rw [e, u2_af hb]; exact h.1 b hb, ?_⟩
  funext p
  unfold mvF
  by_cases q : p = m
  · rw [q, e, u2_s, if_neg (by omega), if_neg (by omega), if_pos rfl, hv]
  · rw [e, u2_o q]
    rcases h.2 with ⟨h2, h3, h4⟩ | ⟨h2, h3⟩
    · rw [h4]
      by_cases q2 : f ≤ p ∧ p < m
      · rw [if_pos q2, if_pos q2]
      · rw [if_neg q2, if_neg q2, if_neg (by omega), if_neg q]
    · rw [h3, if_neg (c := f ≤ p ∧ p < m) (by omega)]
      by_cases q2 : x < (p : Int) ∧ p ≤ f
      · rw [if_pos q2, if_pos (by omega)]
      · rw [if_neg q2, if_neg (by omega), if_neg q]
/-- all polynomials are sorted, one after another -/
def osI (sc : Nat → Int) (ai : Nat → Nat → Int) (al al1 : Nat → Nat → Int64) (x : Int) : Prop := (∀ a, a ≠ 243 → a ≠ 244 → al1 a = al a) ∧ (∀ i : Nat, (i : Int) < x → sorS sc ai al al1 i) ∧ ∀ a k, (60 * x).toNat ≤ k → al1 a k = al a k
theorem sorS_pre {i : Nat} (h : sorS sc ai al1 al2 i) (e : ∀ t, t < 60 → al1 243 (60 * i + t) = al 243 (60 * i + t) ∧ al1 244 (60 * i + t) = al 244 (60 * i + t)) (h60 : ai 242 i ≤ 60) : sorS sc ai al al2 i := fun nv h1 h2 l h3 h4 => h nv h1 h2 l (qL_cg h3 rfl fun t ht => ⟨(e t (by omega)).2, (e t (by omega)).1⟩) h4
theorem os_0 : osI sc ai al al 0 := ⟨fun _ _ _ => rfl, fun i h => by omega, fun _ _ _ => rfl⟩
theorem os_s (h : osI sc ai al al1 x) (h0 : 0 ≤ x ∧ x < 72) (hK : tmok ai) (hf : sfr al1 al2 (60 * x).toNat) (hs : sorS sc ai al1 al2 x.toNat) : osI sc ai al al2 (x + 1) := by
  have h60 := fun i => (hK.1 i).2
  refine ⟨fun a a1 a2 => (hf.1 a ⟨a1, a2⟩).trans (h.1 a a1 a2), fun i hi => ?_, fun a k hk => ?_⟩
  · by_cases e : i = x.toNat
    · rw [e]
      exact sorS_pre hs (fun t ht => ⟨h.2.2 243 _ (by omega), h.2.2 244 _ (by omega)⟩) (h60 _)
    · exact sorS_cg (h.2.1 i (by omega)) (fun t ht => ⟨hf.2 243 _ (by omega), hf.2 244 _ (by omega)⟩) (h60 _)
  · rw [hf.2 a k (by omega)]
    exact h.2.2 a k (by omega)
end MW
theorem o33_b {ai : Nat → Nat → Int} {x n i2 : Int} (h : ∃ j : Nat, x ≤ (j : Int) ∧ (j : Int) < n ∧ ai 240 j = i2) : x < n := by
  obtain ⟨j, h1, h2, _⟩ := h
  omega
theorem o33_s {ai : Nat → Nat → Int} {x n i2 : Int} (h : ∃ j : Nat, x ≤ (j : Int) ∧ (j : Int) < n ∧ ai 240 j = i2) (hne : ai 240 x.toNat ≠ i2) (h0 : 0 ≤ x) : ∃ j : Nat, x + 1 ≤ (j : Int) ∧ (j : Int) < n ∧ ai 240 j = i2 := by
  obtain ⟨j, h1, h2, h3⟩ := h
  refine ⟨j, ?_, h2, h3⟩
  by_cases e : j = x.toNat
  · rw [e] at h3
    exact absurd h3 hne
  · omega
theorem osx_e {sc : Nat → Int} {ai : Nat → Nat → Int} {al al1 al2 : Nat → Nat → Int64} {x n : Int} (h : osI sc ai al al1 x) (hf : sfr al1 al2 4080) (hK : tmok ai) (hx : n = x ∧ 0 ≤ x ∧ x ≤ 16) : (∀ a, a ≠ 243 → a ≠ 244 → al2 a = al a) ∧ ∀ i : Nat, (i : Int) < n → sorS sc ai al al2 i := by
  refine ⟨fun a a1 a2 => (hf.1 a ⟨a1, a2⟩).trans (h.1 a a1 a2), fun i hi => ?_⟩
  exact sorS_cg (h.2.1 i (by omega)) (fun t ht => ⟨hf.2 243 _ (by omega), hf.2 244 _ (by omega)⟩) (hK.1 i).2
