/-! Rounds of the class. -/
def mrO (fr : Nat → Bool) (nv : Nat) (B : List Nat) (c : Nat) (t : Int × (Nat → Po) × Nat × Nat × Option Po) (Z Z1 : Nat → Nat → Int) (al al1 : Nat → Nat → Int64) (ai ai1 : Nat → Nat → Int) (mm1 : Nat → Option Nat) : Prop := ((Z1 1 1 = (t.2.2.1 : Int) ∧ t.2.2.1 ≤ 40) ∧ (Z1 1 4 = (t.2.2.2.1 : Int) ∧ t.2.2.2.1 ≤ 1000)) ∧ rwK fr nv Z1 al1 t.2.1 t.2.2.1 ∧ (mbK Z1 mm1 B c ∧ c ≤ t.2.2.1) ∧ cnO nv t.2.2.2.2 Z Z1 al al1 ∧ dF Z Z1 al al1 ai ai1
section RN
variable {fr : Nat → Bool} {nv c c1 s s1 : Nat} {R R1 : Nat → Po} {B : List Nat} {mm m1 : Nat → Option Nat} {Z Z1 Z2 : Nat → Nat → Int} {al al1 al2 : Nat → Nat → Int64} {ai ai1 ai2 : Nat → Nat → Int}
theorem rs_rng {r : Nat} : 0 ≤ (rsP fr nv B R c s r).1 ∧ (rsP fr nv B R c s r).1 ≤ 3 := by
  unfold rsP
  show 0 ≤ (if _ then _ else if _ then _ else if _ then _ else if _ then _ else _ : Int × (Nat → Po) × Nat × Nat × Option Po).1 ∧ (if _ then _ else if _ then _ else if _ then _ else if _ then _ else _ : Int × (Nat → Po) × Nat × Nat × Option Po).1 ≤ 3
  split
  · exact (by decide : (0 : Int) ≤ 2 ∧ (2 : Int) ≤ 3)
  · split
    · exact (by decide : (0 : Int) ≤ 3 ∧ (3 : Int) ≤ 3)
    · split
      · exact (by decide : (0 : Int) ≤ 0 ∧ (0 : Int) ≤ 3)
      · split
        · exact (by decide : (0 : Int) ≤ 2 ∧ (2 : Int) ≤ 3)
        · exact (by decide : (0 : Int) ≤ 3 ∧ (3 : Int) ≤ 3)
theorem rs_mono {r : Nat} : c ≤ (rsP fr nv B R c s r).2.2.1 ∧ ((rsP fr nv B R c s r).1 = 3 → (rsP fr nv B R c s r).2.2.2.2 = none) := by
  unfold rsP
  show c ≤ (if _ then _ else if _ then _ else if _ then _ else if _ then _ else _ : Int × (Nat → Po) × Nat × Nat × Option Po).2.2.1 ∧ ((if _ then _ else if _ then _ else if _ then _ else if _ then _ else _ : Int × (Nat → Po) × Nat × Nat × Option Po).1 = 3 → (if _ then _ else if _ then _ else if _ then _ else if _ then _ else _ : Int × (Nat → Po) × Nat × Nat × Option Po).2.2.2.2 = none)
  split
  · exact ⟨Nat.le_refl _, fun _ => rfl⟩
  · split
    · exact ⟨Nat.le_refl _, fun _ => rfl⟩
    · split
      · exact ⟨Nat.le_refl _, fun h => absurd (show (0 : Int) = 3 from h) (by decide)⟩
      · split
        · exact ⟨Nat.le_refl _, fun _ => rfl⟩
        · exact ⟨Nat.le_succ _, fun _ => rfl⟩
theorem rw_in {n r h : Nat} (hr : r ∈ B) : rwP fr nv B h (n + 1) r R c s = rwP fr nv B h n (r + 1) R c s := by
  rw [rwP, if_pos hr]
theorem rw_out {n r h : Nat} (hr : ¬ r ∈ B) : rwP fr nv B h (n + 1) r R c s = if (rsP fr nv B R c s r).1 = 3 then rwP fr nv B h n (r + 1) (rsP fr nv B R c s r).2.1 (rsP fr nv B R c s r).2.2.1 (rsP fr nv B R c s r).2.2.2.1 else rsP fr nv B R c s r := by
  rw [rwP, if_neg hr]
  unfold rsP
  show (if _ then _ else _) = (if (if _ then _ else _ : Int × (Nat → Po) × Nat × Nat × Option Po).1 = 3 then _ else _)
  by_cases h1 : (rdP (mbP fr nv R B) (min 200 (1000 - s)) B.length (R r)).1 = false
  · simp only [if_pos h1]
    rw [if_neg (by decide)]
  · simp only [if_neg h1]
    by_cases h2 : prP (rdP (mbP fr nv R B) (min 200 (1000 - s)) B.length (R r)).2.2 = [] ∨ ((List.range c).any fun j => decide (R j = prP (rdP (mbP fr nv R B) (min 200 (1000 - s)) B.length (R r)).2.2)) = true
    · simp only [if_pos h2, if_true]
    · simp only [if_neg h2]
      by_cases h3 : plP fr nv (prP (rdP (mbP fr nv R B) (min 200 (1000 - s)) B.length (R r)).2.2) = -1
      · simp only [if_pos h3]
        rw [if_neg (by decide)]
      · simp only [if_neg h3]
        by_cases h4 : 40 ≤ c
        · simp only [if_pos h4]
          rw [if_neg (by decide)]
        · simp only [if_neg h4, if_true]
theorem ho_iff {r : Nat} (h : mbK Z mm B c) : (∃ j : Nat, (j : Int) < Z 217 0 ∧ 57 + 4 * B.reverse.getD j 0 = 57 + 4 * r) ↔ r ∈ B := by
  have h0 := h.1
  constructor
  · rintro ⟨j, h1, h2⟩
    rw [show r = B.reverse.getD j 0 by omega]
    exact gd_mem (by omega)
  · intro hr
    obtain ⟨j, h1, h2⟩ := gd_of hr
    exact ⟨j, by omega, by rw [h2]⟩
/-- between two rows -/
def mrI (fr : Nat → Bool) (nv : Nat) (B : List Nat) (R : Nat → Po) (c s : Nat) (Z Z1 : Nat → Nat → Int) (al al1 : Nat → Nat → Int64) (ai ai1 : Nat → Nat → Int) (mm1 : Nat → Option Nat) (x : Int) : Prop := ∃ R1 c1 s1, mrO fr nv B c (3, R1, c1, s1, none) Z Z1 al al1 ai ai1 mm1 ∧ rwP fr nv B c c 0 R c s = rwP fr nv B c (c - x.toNat) x.toNat R1 c1 s1
theorem mr_0 {q : Int} (hR : rwK fr nv Z al R c) (hc : c ≤ 40) (h11 : Z 1 1 = (c : Int)) (h14 : Z 1 4 = (s : Int)) (hs : s ≤ 1000) (ez : Z1 = u2 Z 217 0 q) (hB : mbK Z1 mm B c) : mrI fr nv B R c s Z Z1 al al ai ai mm 0 := ⟨R, c, s, ⟨⟨⟨by rw [ez, u2_af (by decide)]; exact h11, hc⟩, by rw [ez, u2_af (by decide)]; exact h14, hs⟩, rwK_u hR hc ez, ⟨hB, Nat.le_refl _⟩, ⟨by rw [ez, u2_af (by decide)], rfl, rfl⟩, ⟨fun b b1 b2 => by rw [ez, u2_af (by omega)], ⟨by rw [ez, u2_af (by decide)], by rw [ez, u2_af (by decide)], by rw [ez, u2_af (by decide)]⟩, fun _ _ => rfl, fun _ _ => rfl⟩⟩, rfl⟩
theorem mr_in {x : Int} (h : mrO fr nv B c (3, R1, c1, s1, none) Z Z1 al al1 ai ai1 mm) (hw : rwP fr nv B c c 0 R c s = rwP fr nv B c (c - x.toNat) x.toNat R1 c1 s1) (h0 : 0 ≤ x ∧ x < (c : Int)) (hr : x.toNat ∈ B) : mrI fr nv B R c s Z Z1 al al1 ai ai1 mm (x + 1) := by
  refine ⟨R1, c1, s1, h, ?_⟩
  rw [hw, show c - x.toNat = (c - (x + 1).toNat) + 1 by omega, rw_in hr, show (x + 1).toNat = x.toNat + 1 by omega]
theorem mr_cn {o : Option Po} (h1 : cnO nv none Z Z1 al al1) (h2 : cnO nv o Z1 Z2 al1 al2) : cnO nv o Z Z2 al al2 := by
  cases o with
  | some g => exact h2
  | none => exact ⟨h2.1.trans h1.1, h2.2.1.trans h1.2.1, h2.2.2.trans h1.2.2⟩
theorem mr_t {r : Nat} (h : mrO fr nv B c (3, R1, c1, s1, none) Z Z1 al al1 ai ai1 mm) (hr : rrO fr nv (rsP fr nv B R1 c1 s1 r) Z1 Z2 al1 al2 ai1 ai2) : mrO fr nv B c (rsP fr nv B R1 c1 s1 r) Z Z2 al al2 ai ai2 mm := by
  obtain ⟨h1, h2, ⟨h3, h4⟩, h5, h6⟩ := h
  obtain ⟨g1, g2, g3, g4, g5⟩ := hr
  have h4 : c ≤ c1 := h4
  exact ⟨g1, g2, ⟨⟨by rw [g3]; exact h3.1, h3.2⟩, Nat.le_trans h4 rs_mono.1⟩, mr_cn h5 g4, dF_tr h6 g5⟩
theorem mr_out {x : Int} (h : mrO fr nv B c (rsP fr nv B R1 c1 s1 x.toNat) Z Z1 al al1 ai ai1 mm) (hw : rwP fr nv B c c 0 R c s = rwP fr nv B c (c - x.toNat) x.toNat R1 c1 s1) (h0 : 0 ≤ x ∧ x < (c : Int)) (hr : ¬ x.toNat ∈ B) (h3 : (rsP fr nv B R1 c1 s1 x.toNat).1 = 3) : mrI fr nv B R c s Z Z1 al al1 ai ai1 mm (x + 1) := by
  refine ⟨(rsP fr nv B R1 c1 s1 x.toNat).2.1, (rsP fr nv B R1 c1 s1 x.toNat).2.2.1, (rsP fr nv B R1 c1 s1 x.toNat).2.2.2.1, ?_, ?_⟩
  · have e := rs_mono.2 h3
    obtain ⟨h1, h2, h4, h5, h6⟩ := h
    rw [e] at h5
    exact ⟨h1, h2, h4, h5, h6⟩
  · rw [hw, show c - x.toNat = (c - (x + 1).toNat) + 1 by omega, rw_out hr, if_pos h3, show (x + 1).toNat = x.toNat + 1 by omega]
theorem mr_ret {x : Int} (hw : rwP fr nv (bsP fr nv R c 8 []) c c 0 R c s = rwP fr nv (bsP fr nv R c 8 []) c (c - x.toNat) x.toNat R1 c1 s1) (h0 : 0 ≤ x ∧ x < (c : Int)) (hr : ¬ x.toNat ∈ bsP fr nv R c 8 []) (h3 : (rsP fr nv (bsP fr nv R c 8 []) R1 c1 s1 x.toNat).1 ≠ 3) : rnP fr nv R c s = rsP fr nv (bsP fr nv R c 8 []) R1 c1 s1 x.toNat := by
  have e : rwP fr nv (bsP fr nv R c 8 []) c c 0 R c s = rsP fr nv (bsP fr nv R c 8 []) R1 c1 s1 x.toNat := by
    rw [hw, show c - x.toNat = (c - (x + 1).toNat) + 1 by omega, rw_out hr, if_neg h3]
  unfold rnP
  rw [e]
  show (if _ then _ else _) = _
  rw [if_neg h3]
theorem mr_end {x : Int} (hw : rwP fr nv (bsP fr nv R c 8 []) c c 0 R c s = rwP fr nv (bsP fr nv R c 8 []) c (c - x.toNat) x.toNat R1 c1 s1) (h0 : x = (c : Int)) : rnP fr nv R c s = (if c1 = c then 1 else 3, R1, c1, s1, none) := by
  have e : rwP fr nv (bsP fr nv R c 8 []) c c 0 R c s = (3, R1, c1, s1, none) := by
    rw [hw, show c - x.toNat = 0 by omega, rwP]
  unfold rnP
  rw [e]
  show (if _ then _ else _) = _
  rw [if_pos rfl]
theorem mr_any {a b : Int} (h : mrO fr nv B c (a, R1, c1, s1, none) Z Z1 al al1 ai ai1 mm) : mrO fr nv B c (b, R1, c1, s1, none) Z Z1 al al1 ai ai1 mm := h
end RN
