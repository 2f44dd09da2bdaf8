/-! What is SOUND in a row of longs; the lead's key. -/
theorem mk_bit : ∀ i, i < 64 → Nat.testBit 17361641481138401520 i = decide (4 ≤ i % 8) := by decide +kernel
theorem dg_bit {n p r : Nat} : (dgt n p).testBit r = (decide (r < 8) && n.testBit (8 * p + r)) := by
  unfold dgt
  rw [p256, show (256 : Nat) = 2 ^ 8 from rfl, Nat.testBit_mod_two_pow, Nat.testBit_div_two_pow, Nat.add_comm]
theorem msk_iff {n : Nat} (h : n < 2 ^ 64) : (Int64.ofNat n &&& Int64.ofNat 17361641481138401520) = 0 ↔ ∀ p, p < 8 → dgt n p ≤ 15 := by
  have e : (Int64.ofNat n &&& Int64.ofNat 17361641481138401520) = 0 ↔ ∀ i, i < 64 → (n.testBit i && decide (4 ≤ i % 8)) = false := by
    rw [← Int64.toBitVec_inj, Int64.toBitVec_and]
    have e1 : (Int64.ofNat n).toBitVec = BitVec.ofNat 64 n := rfl
    have e2 : (Int64.ofNat 17361641481138401520).toBitVec = BitVec.ofNat 64 17361641481138401520 := rfl
    have e3 : (0 : Int64).toBitVec = 0#64 := rfl
    rw [e1, e2, e3]
    constructor
    · intro q i hi
      have := congrArg (fun v => BitVec.getLsbD v i) q
      simp only [BitVec.getLsbD_and, BitVec.getLsbD_ofNat, BitVec.getLsbD_zero, hi, decide_true, Bool.true_and] at this
      rw [mk_bit i hi, Nat.zero_testBit] at this
      exact this
    · intro q
      apply BitVec.eq_of_getLsbD_eq
      intro i hi
      have := q i hi
      simp only [BitVec.getLsbD_and, BitVec.getLsbD_ofNat, BitVec.getLsbD_zero, hi, decide_true, Bool.true_and]
      rw [mk_bit i hi, Nat.zero_testBit]
      exact this
  rw [e]
  constructor
  · intro q p hp
    have : dgt n p < 2 ^ 4 := by
      apply Nat.lt_pow_two_of_testBit
      intro r hr
      rw [dg_bit]
      by_cases h8 : r < 8
      · have := q (8 * p + r) (by omega)
        rw [show decide (4 ≤ (8 * p + r) % 8) = true by rw [decide_eq_true_iff]; omega, Bool.and_true] at this
        rw [this, Bool.and_false]
      · rw [show decide (r < 8) = false by rw [decide_eq_false_iff_not]; exact h8, Bool.false_and]
    omega
  · intro q i hi
    by_cases h4 : 4 ≤ i % 8
    · have h1 := q (i / 8) (by omega)
      have h2 : (dgt n (i / 8)).testBit (i % 8) = false := Nat.testBit_lt_two_pow (Nat.lt_of_lt_of_le (show _ < 2 ^ 4 by omega) (Nat.pow_le_pow_right (by decide) h4))
      rw [dg_bit, show 8 * (i / 8) + i % 8 = i by omega, show decide (i % 8 < 8) = true by rw [decide_eq_true_iff]; omega, Bool.true_and] at h2
      rw [h2, Bool.false_and]
    · rw [show decide (4 ≤ i % 8) = false by rw [decide_eq_false_iff_not]; exact h4, Bool.and_false]
theorem vz_64 {e : Nat} (h : e < 2 ^ 31) : (vz (e : Int)).toInt64 = Int64.ofNat e := by
  apply Int64.toInt_inj.mp
  rw [Int32.toInt_toInt64, on_int (by omega)]
  exact vz_toInt ⟨by omega, by omega⟩
theorem lead_e {e p : Nat} (he : e < 256) (hp : p < 8) : (vz (e : Int)).toInt64 <<< ((vz (8 * (p : Int))).toInt64 &&& 63) = Int64.ofNat (e * 256 ^ p) := by
  rw [vz_64 (by omega)]
  apply Int64.toBitVec_inj.mp
  apply BitVec.eq_of_getLsbD_eq
  intro i hi
  rw [bt_k hp]
  have e1 : ∀ n : Nat, (Int64.ofNat n).toBitVec = BitVec.ofNat 64 n := fun _ => rfl
  rw [e1, e1, BitVec.getLsbD_ofNat, BitVec.getLsbD_ofNat, p256, Nat.testBit_mul_two_pow]
  by_cases q : i < 8 * p
  · rw [show decide (i < 8 * p) = true by simp [q], show decide (8 * p ≤ i) = false by simp; omega]
    simp
  · rw [show decide (i < 8 * p) = false by simp; omega, show decide (8 * p ≤ i) = true by simp; omega, show decide (i < 64) = true by simp [hi], show decide (i - 8 * p < 64) = true by simp; omega]
    simp
theorem on_sub {a b : Nat} (h : b ≤ a) : Int64.ofNat a - Int64.ofNat b = Int64.ofNat (a - b) := by
  have e : a = (a - b) + b := by omega
  conv => lhs; rw [e, Int64.ofNat_add]
  rw [Int64.add_sub_cancel]
/-- keys of a product -/
theorem kb {X Y p e nv : Nat} (hX : X < 256 ^ nv) (hY : Y < 256 ^ nv) (dX : ∀ q, q < 8 → dgt X q ≤ 15) (dY : ∀ q, q < 8 → dgt Y q ≤ 15) (hp : p < nv) (hn : nv ≤ 8) (he : e ≤ dgt Y p) : e * 256 ^ p ≤ Y ∧ X + (Y - e * 256 ^ p) < 2 ^ 63 ∧ X + (Y - e * 256 ^ p) < 256 ^ nv := by
  obtain ⟨h1, h2, h3⟩ := dgt_sub hY hp he
  have h4 : ∀ q, q < nv → dgt (Y - e * 256 ^ p) q ≤ 15 := fun q hq => by
    rw [h3 q hq]
    have := dY q (by omega)
    have := dY p (by omega)
    split <;> omega
  obtain ⟨h5, h6⟩ := dgt_add hX h2 fun q hq => by
    have := dX q (by omega)
    have := h4 q hq
    omega
  refine ⟨h1, ?_, h5⟩
  generalize X + (Y - e * 256 ^ p) = M at h5 h6
  have h8 : M < 256 ^ 8 := Nat.lt_of_lt_of_le h5 (Nat.pow_le_pow_right (by decide) hn)
  have h9 : dgt M 7 ≤ 30 := by
    by_cases q : 7 < nv
    · rw [h6 7 q]
      have := dX 7 (by omega)
      have := h4 7 q
      omega
    · rw [dgt_hi h5 (by omega)]; omega
  unfold dgt at h9
  have e7 : (256 : Nat) ^ 7 = 72057594037927936 := by decide
  have e8 : (256 : Nat) ^ 8 = 18446744073709551616 := by decide
  rw [e7] at h9
  rw [e8] at h8
  have e9 : (2 : Nat) ^ 63 = 9223372036854775808 := by decide
  rw [e9]
  omega
theorem gk_dg {nv : Nat} {f : Po} {x : Nat × Int64} (hg : gk nv f) (hx : x ∈ f) : x.1 < 256 ^ nv ∧ ∀ q, q < 8 → dgt x.1 q ≤ 15 := ⟨hg.2.2 x hx, (hg.2.1.2 x hx).2⟩
/-- SOUND as the stepper tells it -/
theorem sn_iff {Z : Nat → Nat → Int} {al : Nat → Nat → Int64} {sk : Nat} {A : Po} (hS : pS Z al sk A) : snP A ↔ Z 219 0 ≤ 60 ∧ ∀ t : Nat, (t : Int) < Z 219 0 → (-67108864 ≤ (al (221 + sk) t).toInt ∧ (al (221 + sk) t).toInt ≤ 67108864) ∧ (al (220 + sk) t &&& Int64.ofNat 17361641481138401520) = 0 := by
  have h0 := hS.1.1
  have e64 : ∀ x, x ∈ A → x.1 < 2 ^ 64 := fun x hx => Nat.lt_trans (hS.2.2 x hx) (by decide)
  unfold snP sm1
  constructor
  · rintro ⟨h1, h2⟩
    refine ⟨by omega, fun t ht => ?_⟩
    obtain ⟨x, q1, q2, q3⟩ := ls_at hS.1.2 (i := t) (by omega)
    have e1 : al (220 + sk) t = Int64.ofNat x.1 := congrArg Prod.fst q2
    have e2 : al (221 + sk) t = x.2 := congrArg Prod.snd q2
    rw [e1, e2, msk_iff (e64 x q3)]
    exact h2 x q3
  · rintro ⟨h1, h2⟩
    refine ⟨by omega, fun x hx => ?_⟩
    have h3 : en x ∈ A.map en := List.mem_map.mpr ⟨x, hx, rfl⟩
    rw [← hS.1.2] at h3
    obtain ⟨t, ht, q⟩ := (ls_mem _).mp h3
    have e1 : al (220 + sk) t = Int64.ofNat x.1 := congrArg Prod.fst q
    have e2 : al (221 + sk) t = x.2 := congrArg Prod.snd q
    have h4 := h2 t (by omega)
    rw [e1, e2, msk_iff (e64 x hx)] at h4
    exact h4
/-- what storing leaves -/
def soK (al al1 : Nat → Nat → Int64) (a sk : Nat) (n : Int) : Prop := (∀ c, c ≠ a + 1 → c ≠ a + 2 → al1 c = al c) ∧ ∀ t : Nat, (t : Int) < n → al1 (a + 1) t = al (220 + sk) t ∧ al1 (a + 2) t = al (221 + sk) t
theorem soK_i {al al1 al2 : Nat → Nat → Int64} {a sk : Nat} {n : Int} (hs : a + 1 ≠ 221 + sk) (h1 : al1 = uA al (a + 1) (va_cpy (al (220 + sk)) (al (a + 1)) (0 : Int).toNat (0 : Int).toNat n.toNat)) (h2 : al2 = uA al1 (a + 2) (va_cpy (al1 (221 + sk)) (al1 (a + 2)) (0 : Int).toNat (0 : Int).toNat n.toNat)) : soK al al2 a sk n := by
  refine ⟨fun c c1 c2 => by rw [h2, uA_o c2, h1, uA_o c1], fun t ht => ⟨?_, ?_⟩⟩
  · rw [h2, uA_o (by omega), h1, uA_s]
    unfold va_cpy
    rw [if_pos (by omega)]
    congr 1
    omega
  · rw [h2, uA_s]
    unfold va_cpy
    rw [if_pos (by omega), h1, uA_o (by omega)]
    congr 1
    omega
theorem pL_so {Z Z1 : Nat → Nat → Int} {al al1 : Nat → Nat → Int64} {a sk : Nat} {A : Po} (hS : pS Z al sk A) (h : soK al al1 a sk (Z 219 0)) (hz : Z1 a 0 = Z 219 0) : pL Z1 al1 a A := by
  refine ⟨hz.trans hS.1.1, ?_⟩
  rw [← hS.1.2]
  refine ls_cg _ fun t ht => ?_
  have := hS.1.1
  rw [(h.2 t (by omega)).1, (h.2 t (by omega)).2]
theorem lgt_i {a b : Int64} {q : Int} (h1 : q = 0 ↔ a = b) (h2 : q < 0 ↔ a < b) (h : 0 < q) : b.toInt < a.toInt := by
  have e1 : ¬ a = b := fun z => by have := h1.mpr z; omega
  have e2 : ¬ a < b := fun z => by have := h2.mpr z; omega
  rw [Int64.lt_iff_toInt_lt] at e2
  have e3 : a.toInt ≠ b.toInt := fun z => e1 (Int64.toInt_inj.mp z)
  omega
theorem lcm_lt {a b : Int64} {q r : Int} (h1 : q = 0 ↔ a = b) (h2 : q < 0 ↔ a < b) (h3 : r = 0 ↔ a = b) (h4 : r < 0 ↔ a < b) (hq : q ≠ 0) (hr : r ≤ 0) : a.toInt < b.toInt := by
  have e1 : ¬ r = 0 := fun z => hq (h1.mpr (h3.mp z))
  exact Int64.lt_iff_toInt_lt.mp (h4.mp (by omega))
theorem am_bd {al al1 : Nat → Nat → Int64} {sk : Nat} {A f : Po} {N : Nat} {c : Int64} {p lo : Nat} {x8 x9 x10 : Int} (h : amI al al1 sk A f N c p lo x8 x9 x10) : 0 ≤ x9 ∧ x9 ≤ x8 + (f.length : Int) := by
  obtain ⟨h1, O, h2, h3, h4⟩ := h
  have : (nld f p lo).length ≤ f.length := List.length_filter_le _ _
  omega
