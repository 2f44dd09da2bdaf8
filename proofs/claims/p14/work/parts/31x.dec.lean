/-! The whole of decompose. -/
def thP (U : Nat → Po) (h : Nat → Bool) : Nat → (Nat → Po) × Nat
  | 0 => (fun _ => [], 0)
  | i + 1 => if h i = true ∧ U i ≠ [] then (u1P (thP U h i).1 (thP U h i).2 (prP (U i)), (thP U h i).2 + 1) else thP U h i
def fsP (fr : Nat → Bool) (nv : Nat) (R : Nat → Po) : Nat → Option Nat
  | 0 => none
  | r + 1 => match fsP fr nv R r with
    | some j => some j
    | none => if plP fr nv (R r) = -1 then some r else none
noncomputable def dcQ (fr : Nat → Bool) (nv : Nat) : Nat → Nat → (Nat → Po) → Nat → Nat → (Int × (Nat → Po) × Nat × Nat × Option Po) × Nat
  | 0, k, R, c, s => ((2, R, c, s, none), k)
  | n + 1, k, R, c, s => if (rnP fr nv R c s).1 = 3 then dcQ fr nv n (k + 1) (rnP fr nv R c s).2.1 (rnP fr nv R c s).2.2.1 (rnP fr nv R c s).2.2.2.1 else (rnP fr nv R c s, k + 1)
/-- decompose, where there is something to decompose: answer, rows, how many, steps, condition; rounds -/
noncomputable def deP (fr : Nat → Bool) (nv : Nat) (R : Nat → Po) (c : Nat) : (Int × (Nat → Po) × Nat × Nat × Option Po) × Nat := match fsP fr nv R c with
  | some r => ((0, R, c, 0, some (R r)), 0)
  | none => dcQ fr nv 12 0 R c 0
def hyK (az : Nat → Nat → Int32) : Nat → Bool := fun i => decide (az 55 i ≠ 0)
/-- the user's polynomials -/
def usK (nv n : Nat) (U : Nat → Po) (Z : Nat → Nat → Int) (al : Nat → Nat → Int64) : Prop := ∀ i, i < n → pL Z al (7 + 3 * i) (U i) ∧ gk nv (U i)
section DE
variable {fr : Nat → Bool} {nv c n : Nat} {R U : Nat → Po} {h : Nat → Bool} {mm m1 : Nat → Option Nat} {Z Z1 Z2 Z3 : Nat → Nat → Int} {al al1 al2 : Nat → Nat → Int64} {ai ai1 ai2 : Nat → Nat → Int} {az : Nat → Nat → Int32}
theorem th_le : ∀ i : Nat, (thP U h i).2 ≤ i := by
  intro i
  induction i with
  | zero => exact Nat.le_refl _
  | succ i ih =>
    show (if _ then _ else _ : (Nat → Po) × Nat).2 ≤ _
    split
    · show (thP U h i).2 + 1 ≤ i + 1
      omega
    · omega
theorem th_y {i : Nat} (hh : h i = true ∧ U i ≠ []) : thP U h (i + 1) = (u1P (thP U h i).1 (thP U h i).2 (prP (U i)), (thP U h i).2 + 1) := if_pos hh
theorem th_n {i : Nat} (hh : ¬ (h i = true ∧ U i ≠ [])) : thP U h (i + 1) = thP U h i := if_neg hh
theorem th_0 : (thP U h n).2 = 0 ↔ ∀ i, i < n → ¬ (h i = true ∧ U i ≠ []) := by
  induction n with
  | zero => exact ⟨fun _ i hi => by omega, fun _ => rfl⟩
  | succ n ih =>
    by_cases q : h n = true ∧ U n ≠ []
    · rw [th_y q]
      exact ⟨fun z => absurd z (Nat.succ_ne_zero _), fun z => absurd q (z n (by omega))⟩
    · rw [th_n q, ih]
      refine ⟨fun z i hi => ?_, fun z i hi => z i (by omega)⟩
      by_cases e : i = n
      · rw [e]; exact q
      · exact z i (by omega)
/-- does polynomial i come to the rows -/
theorem co_iff {i q w : Int} (hU : usK nv n U Z al) (hi : 0 ≤ i ∧ i < (n : Int)) (hz : az 55 i.toNat = vz q) (hr : -2147483648 ≤ q ∧ q < 2147483648) (hw : w = 1 ↔ (q ≠ 0 ∧ 0 < Z (7 + 3 * i.toNat) 0)) : w = 1 ↔ hyK az i.toNat = true ∧ U i.toNat ≠ [] := by
  have h1 := (hU i.toNat (by omega)).1.1
  rw [hw]
  unfold hyK
  rw [decide_eq_true_iff, hz]
  have e1 : q ≠ 0 ↔ vz q ≠ 0 := by
    rw [Ne, Ne, show (0 : Int32) = vz 0 from rfl, vz_inj hr (by decide)]
  have e2 : 0 < Z (7 + 3 * i.toNat) 0 ↔ U i.toNat ≠ [] := by
    rw [h1, ← List.length_pos_iff]
    omega
  rw [e1, e2]
theorem usK_d (hU : usK nv n U Z al) (hn : n ≤ 16) (hd : dF Z Z1 al al1 ai ai1) : usK nv n U Z1 al1 := fun i hi => by
  obtain ⟨h1, h2⟩ := hU i hi
  exact ⟨pL_cg h1 (by rw [hd.1 (7 + 3 * i) (by omega) (by omega)]) (fun t _ => ⟨by rw [hd.2.2.1 _ (by omega)], by rw [hd.2.2.1 _ (by omega)]⟩), h2⟩
/-- taking the hypotheses -/
def thI (fr : Nat → Bool) (nv : Nat) (U : Nat → Po) (h : Nat → Bool) (Z Z1 : Nat → Nat → Int) (al al1 : Nat → Nat → Int64) (ai : Nat → Nat → Int) (x : Int) : Prop := Z1 1 1 = ((thP U h x.toNat).2 : Int) ∧ rwW fr nv Z1 al1 (thP U h x.toNat).1 (thP U h x.toNat).2 ∧ Z1 1 4 = Z 1 4 ∧ (Z1 217 = Z 217 ∧ cnO nv none Z Z1 al al1) ∧ dF Z Z1 al al1 ai ai
theorem thI_0 (e : Z1 = u2 Z 1 1 0) : thI fr nv U h Z Z1 al al ai 0 := ⟨by rw [e, u2_s]; rfl, fun r hr => absurd hr (Nat.not_lt_zero _), by rw [e, u2_o (by decide)], ⟨by rw [e, u2_af (by decide)], by rw [e, u2_af (by decide)], rfl, rfl⟩, dF_m (Or.inl rfl) e⟩
theorem thI_n {x : Int} (hI : thI fr nv U h Z Z1 al al1 ai x) (h0 : 0 ≤ x) (hh : ¬ (h x.toNat = true ∧ U x.toNat ≠ [])) : thI fr nv U h Z Z1 al al1 ai (x + 1) := by
  unfold thI
  rw [show (x + 1).toNat = x.toNat + 1 by omega, th_n hh]
  exact hI
theorem thI_y {x : Int} (hI : thI fr nv U h Z Z1 al al1 ai x) (h0 : 0 ≤ x ∧ x < 16) (hh : h x.toNat = true ∧ U x.toNat ≠ []) (hg : gk nv (U x.toNat)) (ht : tkR nv fr Z1 Z2 al1 al2 (57 + 4 * (Z1 1 1).toNat) (prP (U x.toNat))) (ez : Z3 = u2 Z2 1 1 (Z2 1 1 + 1)) : thI fr nv U h Z Z3 al al2 ai (x + 1) := by
  obtain ⟨h1, h2, h3, ⟨h4, h5⟩, h6⟩ := hI
  have hl := th_le (U := U) (h := h) x.toNat
  unfold thI
  rw [show (x + 1).toNat = x.toNat + 1 by omega, th_y hh]
  rw [h1, Int.toNat_natCast] at ht
  have hW := rwW_tk h2 (by omega) ht (gk_pr hg)
  have e1 : ∀ b, b ≠ 1 → Z3 b = Z2 b := fun b hb => by rw [ez, u2_af hb]
  have e11 : Z2 1 = Z1 1 := ht.1 1 (by omega) (by omega)
  refine ⟨?_, fun r hr => ?_, ?_, ⟨?_, ?_, ?_, ?_⟩, ?_⟩
  · rw [ez, u2_s, e11, h1]
    show _ = (((thP U h x.toNat).2 + 1 : Nat) : Int)
    omega
  · obtain ⟨⟨q1, q2⟩, q3, q4⟩ := hW r hr
    have hr : r < (thP U h x.toNat).2 + 1 := hr
    have e2 := e1 (57 + 4 * r) (by omega)
    exact ⟨⟨pL_cg q1 (by rw [e1 _ (by omega)]) fun _ _ => ⟨rfl, rfl⟩, q2⟩, by rw [e2]; exact q3, fun z => by rw [e2]; exact q4 z⟩
  · rw [ez, u2_o (by decide), e11]; exact h3
  · rw [e1 217 (by decide), ht.1 217 (by omega) (by omega)]; exact h4
  · rw [e1 224 (by decide), ht.1 224 (by omega) (by omega)]; exact h5.1
  · rw [ht.2.1 225 (by omega) (by omega)]; exact h5.2.1
  · rw [ht.2.1 226 (by omega) (by omega)]; exact h5.2.2
  · exact dF_tr h6 (dF_tr (dF_tk ht (by omega)) (dF_m (Or.inl rfl) ez))
theorem fs_no {x : Int} (h1 : fsP fr nv R x.toNat = none) (h0 : 0 ≤ x) (hp : plP fr nv (R x.toNat) ≠ -1) : fsP fr nv R (x + 1).toNat = none := by
  rw [show (x + 1).toNat = x.toNat + 1 by omega]
  show (match fsP fr nv R x.toNat with
    | some j => some j
    | none => if plP fr nv (R x.toNat) = -1 then some x.toNat else none) = none
  rw [h1]
  exact if_neg hp
theorem fs_yes {x : Nat} (h1 : fsP fr nv R x = none) (hp : plP fr nv (R x) = -1) : ∀ c : Nat, x < c → fsP fr nv R c = some x := by
  intro c
  induction c with
  | zero => intro h; omega
  | succ c ih =>
    intro h
    show (match fsP fr nv R c with
      | some j => some j
      | none => if plP fr nv (R c) = -1 then some c else none) = some x
    by_cases e : x = c
    · subst e
      rw [h1]
      exact if_pos hp
    · rw [ih (by omega)]
theorem fs_all : ∀ c : Nat, fsP fr nv R c = none → ∀ r, r < c → plP fr nv (R r) ≠ -1 := by
  intro c
  induction c with
  | zero => intro _ r hr; omega
  | succ c ih =>
    intro h1 r hr
    have h2 : (match fsP fr nv R c with
      | some j => some j
      | none => if plP fr nv (R c) = -1 then some c else none) = none := h1
    cases h3 : fsP fr nv R c with
    | some j => rw [h3] at h2; cases h2
    | none =>
      rw [h3] at h2
      by_cases e : r = c
      · rw [e]
        intro z
        have h2 : (if plP fr nv (R c) = -1 then some c else none) = none := h2
        rw [if_pos z] at h2
        cases h2
      · exact ih h3 r (by omega)
/-- what telling a condition of the rows leaves -/
def tcO (fr : Nat → Bool) (nv : Nat) (R : Nat → Po) (c : Nat) (Z Z1 : Nat → Nat → Int) (al al1 : Nat → Nat → Int64) (q : Int) : Prop := (q = 0 ∧ fsP fr nv R c = none ∧ Z1 = Z ∧ al1 = al) ∨ (q = 1 ∧ ∃ r, r < c ∧ fsP fr nv R c = some r ∧ Z1 = u2 Z 224 0 (Z (57 + 4 * r + 1) 0) ∧ cpK al al1 224 (57 + 4 * r + 1) (Z (57 + 4 * r + 1) 0))
/-- what decompose leaves, apart from the remainder and the count of rounds -/
def dcF (Z Z1 : Nat → Nat → Int) (al al1 : Nat → Nat → Int64) (ai ai1 : Nat → Nat → Int) : Prop := (∀ b, b ≠ 1 → b < 57 ∨ (225 ≤ b ∧ b ≠ 234 ∧ b ≠ 227) → Z1 b = Z b) ∧ (Z1 1 0 = Z 1 0 ∧ Z1 1 5 = Z 1 5) ∧ (∀ b, b < 57 ∨ (227 ≤ b ∧ b ≠ 235 ∧ b ≠ 236) → al1 b = al b) ∧ ∀ b, b ≠ 237 → ai1 b = ai b
theorem dcF_tr (h1 : dcF Z Z1 al al1 ai ai1) (h2 : dcF Z1 Z2 al1 al2 ai1 ai2) : dcF Z Z2 al al2 ai ai2 := ⟨fun b b1 b2 => (h2.1 b b1 b2).trans (h1.1 b b1 b2), ⟨h2.2.1.1.trans h1.2.1.1, h2.2.1.2.trans h1.2.1.2⟩, fun b b1 => (h2.2.2.1 b b1).trans (h1.2.2.1 b b1), fun b b1 => (h2.2.2.2 b b1).trans (h1.2.2.2 b b1)⟩
theorem dcF_d (h1 : dF Z Z1 al al1 ai ai1) : dcF Z Z1 al al1 ai ai1 := ⟨fun b b1 b2 => h1.1 b b1 (by omega), ⟨h1.2.1.1, h1.2.1.2.2⟩, h1.2.2.1, h1.2.2.2⟩
theorem dcF_u {a j : Nat} {v : Int} (e : Z1 = u2 Z a j v) (ha : (a = 1 ∧ (j = 1 ∨ j = 2 ∨ j = 3 ∨ j = 4)) ∨ (57 ≤ a ∧ a < 225) ∨ a = 227) : dcF Z Z1 al al ai ai := by
  refine ⟨fun b b1 b2 => by rw [e, u2_af (by omega)], ⟨?_, ?_⟩, fun _ _ => rfl, fun _ _ => rfl⟩
  · by_cases q : a = 1
    · subst q; rw [e, u2_o (by omega)]
    · rw [e, u2_af (Ne.symm q)]
  · by_cases q : a = 1
    · subst q; rw [e, u2_o (by omega)]
    · rw [e, u2_af (Ne.symm q)]
end DE
