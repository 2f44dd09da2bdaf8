/-! A key by places, and the powers that it tells, as the machine makes them. -/
def nbl (w : Int32) (v : Int) : Int32 := (w.toUInt32 >>> ((vz (4 * v)).toUInt32 &&& Int32.toUInt32 31)).toInt32 &&& vz 15
def kof (V : Nat → Int) (w : Int32) : Nat → Int64
  | 0 => Int64.ofNat 0
  | p + 1 => kof V w p ||| ((nbl w (V p)).toInt64 <<< ((vz (8 * (p : Int))).toInt64 &&& 63))
def pof (V : Nat → Int) (κ : Int64) : Nat → Int32
  | 0 => vz 0
  | p + 1 => pof V κ p ||| (vz (pw κ (p : Int)) <<< (vz (4 * V p) &&& 31))
theorem kof_s {V : Nat → Int} {w : Int32} {x : Int} {y : Int64} (h : y = kof V w x.toNat) (hx : 0 ≤ x) : (y ||| ((nbl w (V x.toNat)).toInt64 <<< ((vz (8 * x)).toInt64 &&& 63))) = kof V w (x + 1).toNat := by
  have e : (x + 1).toNat = x.toNat + 1 := by omega
  rw [e, h]
  show _ = kof V w x.toNat ||| ((nbl w (V x.toNat)).toInt64 <<< ((vz (8 * (x.toNat : Int))).toInt64 &&& 63))
  rw [show (x.toNat : Int) = x by omega]
theorem pof_s {V : Nat → Int} {κ : Int64} {x : Int} {y : Int32} (h : y = pof V κ x.toNat) (hx : 0 ≤ x) : (y ||| (vz (pw κ x) <<< (vz (4 * V x.toNat) &&& 31))) = pof V κ (x + 1).toNat := by
  have e : (x + 1).toNat = x.toNat + 1 := by omega
  rw [e, h]
  show _ = pof V κ x.toNat ||| (vz (pw κ (x.toNat : Int)) <<< (vz (4 * V x.toNat) &&& 31))
  rw [show (x.toNat : Int) = x by omega]
