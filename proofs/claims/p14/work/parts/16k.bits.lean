/-! The bits of keys and of powers. -/
theorem bt_k {x : Int64} {p : Nat} (hp : p < 8) (i : Nat) : (x <<< ((vz (8 * (p : Int))).toInt64 &&& 63)).toBitVec.getLsbD i = (decide (i < 64) && !decide (i < 8 * p) && x.toBitVec.getLsbD (i - 8 * p)) := by
  have key : ∀ (s : Int64) (k : Nat), s.toBitVec.smod 64 = BitVec.ofNat 64 k → k < 64 → (x <<< s).toBitVec.getLsbD i = (decide (i < 64) && !decide (i < k) && x.toBitVec.getLsbD (i - k)) := by
    intro s k hs hk
    have e : (x <<< s).toBitVec = x.toBitVec <<< (s.toBitVec.smod 64) := rfl
    rw [e, hs, BitVec.shiftLeft_eq', BitVec.toNat_ofNat, Nat.mod_eq_of_lt (by omega), BitVec.getLsbD_shiftLeft]
  match p, hp with
  | 0, _ => exact key _ 0 (by decide) (by decide)
  | 1, _ => exact key _ 8 (by decide) (by decide)
  | 2, _ => exact key _ 16 (by decide) (by decide)
  | 3, _ => exact key _ 24 (by decide) (by decide)
  | 4, _ => exact key _ 32 (by decide) (by decide)
  | 5, _ => exact key _ 40 (by decide) (by decide)
  | 6, _ => exact key _ 48 (by decide) (by decide)
  | 7, _ => exact key _ 56 (by decide) (by decide)
theorem bt_p {x : Int32} {v : Int} (hv : 0 ≤ v ∧ v < 8) (i : Nat) : (x <<< (vz (4 * v) &&& 31)).toBitVec.getLsbD i = (decide (i < 32) && !decide (i < 4 * v.toNat) && x.toBitVec.getLsbD (i - 4 * v.toNat)) := by
  have key : ∀ (s : Int32) (k : Nat), s.toBitVec.smod 32 = BitVec.ofNat 32 k → k < 32 → (x <<< s).toBitVec.getLsbD i = (decide (i < 32) && !decide (i < k) && x.toBitVec.getLsbD (i - k)) := by
    intro s k hs hk
    have e : (x <<< s).toBitVec = x.toBitVec <<< (s.toBitVec.smod 32) := rfl
    rw [e, hs, BitVec.shiftLeft_eq', BitVec.toNat_ofNat, Nat.mod_eq_of_lt (by omega), BitVec.getLsbD_shiftLeft]
  obtain ⟨m, rfl⟩ : ∃ m : Nat, v = (m : Int) := ⟨v.toNat, by omega⟩
  have hm : m < 8 := by omega
  rw [Int.toNat_natCast]
  match m, hm with
  | 0, _ => exact key _ 0 (by decide) (by decide)
  | 1, _ => exact key _ 4 (by decide) (by decide)
  | 2, _ => exact key _ 8 (by decide) (by decide)
  | 3, _ => exact key _ 12 (by decide) (by decide)
  | 4, _ => exact key _ 16 (by decide) (by decide)
  | 5, _ => exact key _ 20 (by decide) (by decide)
  | 6, _ => exact key _ 24 (by decide) (by decide)
  | 7, _ => exact key _ 28 (by decide) (by decide)
theorem bt_15 (r : Nat) : (vz 15).toBitVec.getLsbD r = decide (r < 4) := by
  by_cases h : r < 32
  · have : ∀ r : Nat, r < 32 → (vz 15).toBitVec.getLsbD r = decide (r < 4) := by decide
    exact this r h
  · rw [BitVec.getLsbD_of_ge _ _ (by omega)]
    simp; omega
theorem bt_255 (r : Nat) : (vz 255).toBitVec.getLsbD r = decide (r < 8) := by
  by_cases h : r < 32
  · have : ∀ r : Nat, r < 32 → (vz 255).toBitVec.getLsbD r = decide (r < 8) := by decide
    exact this r h
  · rw [BitVec.getLsbD_of_ge _ _ (by omega)]
    simp; omega
/-- four bits of a word -/
theorem bt_n {w : Int32} {v : Int} (hv : 0 ≤ v ∧ v < 8) (r : Nat) : (nbl w v).toBitVec.getLsbD r = (decide (r < 4) && w.toBitVec.getLsbD (4 * v.toNat + r)) := by
  have key : ∀ (s : UInt32) (k : Nat), s.toBitVec % 32 = BitVec.ofNat 32 k → k < 32 → ((w.toUInt32 >>> s).toInt32 &&& vz 15).toBitVec.getLsbD r = (decide (r < 4) && w.toBitVec.getLsbD (k + r)) := by
    intro s k hs hk
    have e : ((w.toUInt32 >>> s).toInt32 &&& vz 15).toBitVec = (w.toBitVec >>> (s.toBitVec % 32)) &&& (vz 15).toBitVec := rfl
    rw [e, hs, BitVec.getLsbD_and, bt_15, BitVec.ushiftRight_eq', BitVec.toNat_ofNat, Nat.mod_eq_of_lt (by omega), BitVec.getLsbD_ushiftRight, Bool.and_comm]
  unfold nbl
  obtain ⟨m, rfl⟩ : ∃ m : Nat, v = (m : Int) := ⟨v.toNat, by omega⟩
  have hm : m < 8 := by omega
  rw [Int.toNat_natCast]
  match m, hm with
  | 0, _ => exact key _ 0 (by decide) (by decide)
  | 1, _ => exact key _ 4 (by decide) (by decide)
  | 2, _ => exact key _ 8 (by decide) (by decide)
  | 3, _ => exact key _ 12 (by decide) (by decide)
  | 4, _ => exact key _ 16 (by decide) (by decide)
  | 5, _ => exact key _ 20 (by decide) (by decide)
  | 6, _ => exact key _ 24 (by decide) (by decide)
  | 7, _ => exact key _ 28 (by decide) (by decide)
/-- eight bits of a key -/
theorem bt_w {κ : Int64} {p : Nat} (hp : p < 8) (r : Nat) : (vz (pw κ (p : Int))).toBitVec.getLsbD r = (decide (r < 8) && κ.toBitVec.getLsbD (8 * p + r)) := by
  rw [← pw_vz]
  have key : ∀ (s : UInt64) (k : Nat), s.toBitVec % 64 = BitVec.ofNat 64 k → k < 64 → ((κ.toUInt64 >>> s).toInt64.toInt32 &&& vz 255).toBitVec.getLsbD r = (decide (r < 8) && κ.toBitVec.getLsbD (k + r)) := by
    intro s k hs hk
    have e : ((κ.toUInt64 >>> s).toInt64.toInt32 &&& vz 255).toBitVec = (κ.toBitVec >>> (s.toBitVec % 64)).signExtend 32 &&& (vz 255).toBitVec := rfl
    rw [e, hs, BitVec.getLsbD_and, bt_255, BitVec.ushiftRight_eq', BitVec.toNat_ofNat, Nat.mod_eq_of_lt (by omega), BitVec.getLsbD_signExtend, Bool.and_comm]
    by_cases h8 : r < 8
    · rw [if_pos (by omega), BitVec.getLsbD_ushiftRight]
      simp [h8, show r < 32 by omega]
    · simp [h8]
  unfold pwI
  match p, hp with
  | 0, _ => exact key _ 0 (by decide) (by decide)
  | 1, _ => exact key _ 8 (by decide) (by decide)
  | 2, _ => exact key _ 16 (by decide) (by decide)
  | 3, _ => exact key _ 24 (by decide) (by decide)
  | 4, _ => exact key _ 32 (by decide) (by decide)
  | 5, _ => exact key _ 40 (by decide) (by decide)
  | 6, _ => exact key _ 48 (by decide) (by decide)
  | 7, _ => exact key _ 56 (by decide) (by decide)
