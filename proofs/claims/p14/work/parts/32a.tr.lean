/-! Keys by variables: the digits of a key by places, laid elsewhere. -/
def plv (V : Nat → Nat) (v : Nat) : Nat → Option Nat
  | 0 => none
  | p + 1 => if V p = v then some p else plv V v p
def etr (V : Nat → Nat) (nv N v : Nat) : Nat := match plv V v nv with
  | some p => dgt N p
  | none => 0
def tr (V : Nat → Nat) (nv N : Nat) : Nat := mk8 (etr V nv N) 8
/-- V has each variable once -/
def pmV (V : Nat → Nat) (nv : Nat) : Prop := nv ≤ 8 ∧ (∀ p, p < nv → V p < 8) ∧ ∀ p q, p < nv → q < nv → V p = V q → p = q
section TRK
variable {V : Nat → Nat} {nv N M p v : Nat}
theorem plv_some : ∀ n : Nat, plv V v n = some p → p < n ∧ V p = v := by
  intro n
  induction n with
  | zero => intro h; cases h
  | succ n ih =>
    intro h
    have h : (if V n = v then some n else plv V v n) = some p := h
    by_cases q : V n = v
    · rw [if_pos q] at h
      cases h
      exact ⟨by omega, q⟩
    · rw [if_neg q] at h
      have := ih h
      exact ⟨by omega, this.2⟩
theorem plv_V (h : pmV V nv) (hp : p < nv) : plv V (V p) nv = some p := by
  have key : ∀ n : Nat, p < n → n ≤ nv → plv V (V p) n = some p := by
    intro n
    induction n with
    | zero => intro q; omega
    | succ n ih =>
      intro q1 q2
      show (if V n = V p then some n else plv V (V p) n) = some p
      by_cases e : V n = V p
      · rw [if_pos e, h.2.2 n p (by omega) hp e]
      · rw [if_neg e]
        exact ih (by by_cases z : p = n; exact absurd (by rw [z]) e; omega) (by omega)
  exact key nv hp (Nat.le_refl _)
theorem etr_lt : etr V nv N v < 256 := by
  unfold etr
  split
  · exact dgt_lt _ _
  · decide
theorem tr_lt : tr V nv N < 256 ^ 8 := mk8_lt 8 fun _ _ => etr_lt
theorem tr_64 : tr V nv N < 2 ^ 64 := Nat.lt_of_lt_of_le (tr_lt (V := V) (nv := nv) (N := N)) (by decide)
theorem dgt_tr (hv : v < 8) : dgt (tr V nv N) v = etr V nv N v := dgt_mk8 8 (fun _ _ => etr_lt) hv
theorem etr_V (h : pmV V nv) (hp : p < nv) : etr V nv N (V p) = dgt N p := by
  unfold etr
  rw [plv_V h hp]
theorem dgt_trV (h : pmV V nv) (hp : p < nv) : dgt (tr V nv N) (V p) = dgt N p := by rw [dgt_tr (h.2.1 p hp), etr_V h hp]
theorem etr_le {b : Nat} (h : ∀ p, p < nv → dgt N p ≤ b) : etr V nv N v ≤ b := by
  unfold etr
  split
  next q e => exact h q (plv_some nv e).1
  next => exact Nat.zero_le _
theorem tr_add (h : ∀ p, p < nv → dgt (N + M) p = dgt N p + dgt M p) : tr V nv (N + M) = tr V nv N + tr V nv M := by
  unfold tr
  rw [← mk8_add]
  refine mk8_cg 8 fun v _ => ?_
  unfold etr
  split
  next q e => exact h q (plv_some nv e).1
  next => rfl
theorem tr_one {d : Nat} (h : pmV V nv) (hp : p < nv) (hd : d < 256) : tr V nv (d * 256 ^ p) = d * 256 ^ (V p) := by
  have e1 := dgt_one hd hp
  have e2 : tr V nv (d * 256 ^ p) = mk8 (fun q => if q = V p then d else 0) 8 := by
    refine mk8_cg 8 fun v _ => ?_
    unfold etr
    split
    next q e =>
      obtain ⟨q1, q2⟩ := plv_some nv e
      rw [e1.2 q q1]
      by_cases z : q = p
      · rw [if_pos z, if_pos (by rw [← q2, z])]
      · rw [if_neg z, if_neg (fun y => z (h.2.2 q p q1 hp (q2.trans y)))]
    next e =>
      by_cases z : v = V p
      · rw [z, plv_V h hp] at e
        cases e
      · rw [if_neg z]
  rw [e2, one_mk8, if_pos (h.2.1 p hp)]
theorem tr_sub {d : Nat} (h : pmV V nv) (hN : N < 256 ^ nv) (hp : p < nv) (hd : d ≤ dgt N p) : d * 256 ^ (V p) ≤ tr V nv N ∧ tr V nv (N - d * 256 ^ p) = tr V nv N - d * 256 ^ (V p) := by
  obtain ⟨h1, h2, h3⟩ := dgt_sub hN hp hd
  have hd2 : d < 256 := Nat.lt_of_le_of_lt hd (dgt_lt _ _)
  have e := tr_add (V := V) (nv := nv) (N := N - d * 256 ^ p) (M := d * 256 ^ p) (fun q hq => by
    rw [Nat.sub_add_cancel h1, h3 q hq, (dgt_one hd2 hp).2 q hq]
    by_cases z : q = p
    · rw [if_pos z, if_pos z, z]; omega
    · rw [if_neg z, if_neg z]; omega)
  rw [Nat.sub_add_cancel h1, tr_one h hp hd2] at e
  omega
theorem tr_inj (h : pmV V nv) (hN : N < 256 ^ nv) (hM : M < 256 ^ nv) (e : tr V nv N = tr V nv M) : N = M :=
  dgt_ext hN hM fun p hp => by rw [← dgt_trV (V := V) h hp, e, dgt_trV h hp]
/-- what the reference's degree asks -/
theorem pw_tr (h : pmV V nv) (hp : p < nv) : pw (Int64.ofNat (tr V nv N)) (V p : Int) = (dgt N p : Int) := by
  have h1 := h.2.1 p hp
  rw [pw_dgt tr_64 (by omega), Int.toNat_natCast, dgt_trV h hp]
theorem tr_sm (h : pmV V nv) (hN : N < 256 ^ nv) : (∀ v, v < 8 → dgt (tr V nv N) v ≤ 15) ↔ ∀ p, p < 8 → dgt N p ≤ 15 := by
  constructor
  · intro q p _
    by_cases hp : p < nv
    · rw [← dgt_trV (V := V) h hp]; exact q _ (h.2.1 p hp)
    · rw [dgt_hi hN (by omega)]; exact Nat.zero_le _
  · intro q v hv
    rw [dgt_tr hv]
    exact etr_le fun p hp => q p (by have := h.1; omega)
end TRK
/-- a digit is cleared -/
theorem clr_d {K v : Nat} (hK : K < 2 ^ 64) (hv : v < 8) : (Int64.ofNat K &&& ((Int64.ofNat 255 <<< ((vz (8 * (v : Int))).toInt64 &&& 63)) ^^^ Int64.ofNat 18446744073709551615)) = Int64.ofNat (K - dgt K v * 256 ^ v) := by
  have e1 : ∀ n : Nat, (Int64.ofNat n).toBitVec = BitVec.ofNat 64 n := fun _ => rfl
  have hK8 : K < 256 ^ 8 := hK
  obtain ⟨s1, s2, s3⟩ := dgt_sub (n := 8) hK8 hv (Nat.le_refl (dgt K v))
  apply Int64.toBitVec_inj.mp
  apply BitVec.eq_of_getLsbD_eq
  intro i hi
  rw [Int64.toBitVec_and, Int64.toBitVec_xor, BitVec.getLsbD_and, BitVec.getLsbD_xor, bt_k hv, e1, e1, e1, e1, BitVec.getLsbD_ofNat, BitVec.getLsbD_ofNat, BitVec.getLsbD_ofNat, BitVec.getLsbD_ofNat]
  have ones : Nat.testBit 18446744073709551615 i = true := by
    have := Nat.testBit_two_pow_sub_one 64 i
    rw [show (2 : Nat) ^ 64 - 1 = 18446744073709551615 from rfl] at this
    rw [this, decide_eq_true_iff]
    exact hi
  have f255 : ∀ j, Nat.testBit 255 j = decide (j < 8) := fun j => Nat.testBit_two_pow_sub_one 8 j
  have hR : (K - dgt K v * 256 ^ v).testBit i = (dgt (K - dgt K v * 256 ^ v) (i / 8)).testBit (i % 8) := by
    rw [dg_bit, show 8 * (i / 8) + i % 8 = i by omega, show decide (i % 8 < 8) = true by rw [decide_eq_true_iff]; omega, Bool.true_and]
  have hL : K.testBit i = (dgt K (i / 8)).testBit (i % 8) := by
    rw [dg_bit, show 8 * (i / 8) + i % 8 = i by omega, show decide (i % 8 < 8) = true by rw [decide_eq_true_iff]; omega, Bool.true_and]
  rw [ones, f255, hR, hL, s3 (i / 8) (by omega), show decide (i < 64) = true by simp [hi]]
  by_cases q : i / 8 = v
  · rw [if_pos q, q, Nat.sub_self, Nat.zero_testBit, show decide (i < 8 * v) = false by simp; omega, show decide (i - 8 * v < 64) = true by simp; omega, show decide (i - 8 * v < 8) = true by simp; omega]
    simp
  · rw [if_neg q]
    by_cases q2 : i < 8 * v
    · rw [show decide (i < 8 * v) = true by simp [q2]]
      simp
    · rw [show decide (i - 8 * v < 8) = false by simp; omega]
      simp
theorem shl_or {A d : Nat} (hd : d < 256) (h : A * 256 + d < 2 ^ 64) : (Int64.ofNat A <<< (8 : Int64)) ||| Int64.ofNat d = Int64.ofNat (A * 256 + d) := by
  apply Int64.toBitVec_inj.mp
  apply BitVec.eq_of_getLsbD_eq
  intro i hi
  have e1 : ∀ n : Nat, (Int64.ofNat n).toBitVec = BitVec.ofNat 64 n := fun _ => rfl
  have e8 := bt_k (x := Int64.ofNat A) (p := 1) (by decide) i
  have e9 : ((vz (8 * ((1 : Nat) : Int))).toInt64 &&& 63) = (8 : Int64) := by decide
  rw [e9] at e8
  rw [Int64.toBitVec_or, BitVec.getLsbD_or, e8, e1, e1, e1, BitVec.getLsbD_ofNat, BitVec.getLsbD_ofNat, BitVec.getLsbD_ofNat]
  have e2 : A * 256 + d = 2 ^ 8 * A + d := by omega
  rw [e2, Nat.testBit_two_pow_mul_add A hd, show decide (i < 64) = true by simp [hi]]
  by_cases q : i < 8
  · rw [if_pos q, show decide (i < 8 * 1) = true by simp; omega]
    simp
  · have hdz : d.testBit i = false := Nat.testBit_lt_two_pow (Nat.lt_of_lt_of_le hd (by rw [show (256 : Nat) = 2 ^ 8 from rfl]; exact Nat.pow_le_pow_right (by decide) (by omega)))
    rw [if_neg q, hdz, show decide (i < 8 * 1) = false by simp; omega, show decide (i - 8 * 1 < 64) = true by simp; omega]
    simp
