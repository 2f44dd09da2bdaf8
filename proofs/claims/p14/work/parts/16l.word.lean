theorem bt_n64 {w : Int32} {v : Int} (hv : 0 ≤ v ∧ v < 8) (r : Nat) : (nbl w v).toInt64.toBitVec.getLsbD r = (decide (r < 4) && w.toBitVec.getLsbD (4 * v.toNat + r)) := by
  have e : (nbl w v).toInt64.toBitVec = (nbl w v).toBitVec.signExtend 64 := rfl
  have hm : (nbl w v).toBitVec.msb = false := by
    rw [BitVec.msb_eq_getLsbD_last, bt_n hv]
    rfl
  rw [e, BitVec.getLsbD_signExtend, hm]
  by_cases h : r < 32
  · rw [if_pos h, bt_n hv]
    simp [show r < 64 by omega]
  · rw [if_neg h]
    simp [show ¬ r < 4 by omega]
section BK
variable {V : Nat → Int} {w : Int32} {κ : Int64}
theorem bt_kof (hV : ∀ j, 0 ≤ V j ∧ V j < 8) : ∀ n : Nat, n ≤ 8 → ∀ i : Nat, (kof V w n).toBitVec.getLsbD i = (decide (i < 8 * n) && decide (i % 8 < 4) && w.toBitVec.getLsbD (4 * (V (i / 8)).toNat + i % 8)) := by
  intro n
  induction n with
  | zero =>
    intro _ i
    have e : (kof V w 0).toBitVec = 0#64 := rfl
    rw [e, BitVec.getLsbD_zero]
    simp
  | succ n ih =>
    intro hn i
    have e : (kof V w (n + 1)).toBitVec = (kof V w n).toBitVec ||| ((nbl w (V n)).toInt64 <<< ((vz (8 * (n : Int))).toInt64 &&& 63)).toBitVec := rfl
    rw [e, BitVec.getLsbD_or, ih (by omega), bt_k (by omega), bt_n64 (hV n)]
    by_cases h1 : i < 8 * n
    · simp [h1, show i < 8 * (n + 1) by omega]
    · by_cases h2 : i < 8 * (n + 1)
      · have e1 : i / 8 = n := by omega
        have e2 : i - 8 * n = i % 8 := by omega
        rw [e1, e2]
        simp [h1, h2, show i < 64 by omega]
      · simp [h1, h2, show ¬ i - 8 * n < 4 by omega]
theorem bt_pof (hV : ∀ j, 0 ≤ V j ∧ V j < 8) : ∀ n : Nat, n ≤ 8 → ∀ i : Nat, i < 32 → ((pof V κ n).toBitVec.getLsbD i = true ↔ ∃ q, q < n ∧ 4 * (V q).toNat ≤ i ∧ i - 4 * (V q).toNat < 8 ∧ κ.toBitVec.getLsbD (8 * q + (i - 4 * (V q).toNat)) = true) := by
  intro n
  induction n with
  | zero =>
    intro _ i hi
    have e : (pof V κ 0).toBitVec = 0#32 := rfl
    rw [e, BitVec.getLsbD_zero]
    exact ⟨fun h => (by cases h), fun ⟨q, hq, _⟩ => (by omega)⟩
  | succ n ih =>
    intro hn i hi
    have e : (pof V κ (n + 1)).toBitVec = (pof V κ n).toBitVec ||| (vz (pw κ (n : Int)) <<< (vz (4 * V n) &&& 31)).toBitVec := rfl
    rw [e, BitVec.getLsbD_or, Bool.or_eq_true, ih (by omega) i hi, bt_p (hV n), bt_w (by omega)]
    constructor
    · rintro (⟨q, h1, h2⟩ | h)
      · exact ⟨q, by omega, h2⟩
      · simp only [Bool.and_eq_true, decide_eq_true_eq, Bool.not_eq_true', decide_eq_false_iff_not] at h
        exact ⟨n, by omega, by omega, h.2.1, h.2.2⟩
    · rintro ⟨q, h1, h2, h3, h4⟩
      by_cases hq : q = n
      · subst hq
        refine Or.inr ?_
        simp only [Bool.and_eq_true, decide_eq_true_eq, Bool.not_eq_true', decide_eq_false_iff_not]
        exact ⟨⟨by omega, by omega⟩, h3, h4⟩
      · exact Or.inl ⟨q, by omega, h2, h3, h4⟩
/-- a word that has powers of the first n variables alone -/
def val (n : Nat) (w : Int32) : Prop := ∀ i : Nat, 4 * n ≤ i → w.toBitVec.getLsbD i = false
theorem pof_kof {n : Nat} (hV : ∀ j, 0 ≤ V j ∧ V j < 8) (hn : n ≤ 8) (hs : ∀ v : Nat, v < n → ∃ q, q < n ∧ V q = (v : Int)) (hw : val n w) : pof V (kof V w n) n = w := by
  apply Int32.toBitVec_inj.mp
  apply BitVec.eq_of_getLsbD_eq
  intro i hi
  rw [Bool.eq_iff_iff, bt_pof hV n hn i hi]
  constructor
  · rintro ⟨q, h1, h2, h3, h4⟩
    rw [bt_kof hV n hn] at h4
    simp only [Bool.and_eq_true, decide_eq_true_eq] at h4
    obtain ⟨⟨h5, h6⟩, h7⟩ := h4
    have e1 : (8 * q + (i - 4 * (V q).toNat)) / 8 = q := by omega
    have e2 : (8 * q + (i - 4 * (V q).toNat)) % 8 = i - 4 * (V q).toNat := by omega
    rw [e1, e2] at h7
    rw [show 4 * (V q).toNat + (i - 4 * (V q).toNat) = i by omega] at h7
    exact h7
  · intro h
    have hl : i < 4 * n := by
      by_cases q : i < 4 * n
      · exact q
      · rw [hw i (by omega)] at h
        cases h
    obtain ⟨q, hq, e⟩ := hs (i / 4) (by omega)
    refine ⟨q, hq, by omega, by omega, ?_⟩
    rw [bt_kof hV n hn]
    simp only [Bool.and_eq_true, decide_eq_true_eq]
    have e1 : (8 * q + (i - 4 * (V q).toNat)) / 8 = q := by omega
    have e2 : (8 * q + (i - 4 * (V q).toNat)) % 8 = i - 4 * (V q).toNat := by omega
    rw [e1, e2, show 4 * (V q).toNat + (i - 4 * (V q).toNat) = i by omega]
    exact ⟨⟨by omega, by omega⟩, h⟩
end BK
