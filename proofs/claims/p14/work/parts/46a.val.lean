/-! The value of a key, of a slot, as the reference computes it. -/
def vaF (pt : Nat → Int64) (key : Int64) : Nat → Int64
  | 0 => Int64.ofNat 1
  | v + 1 => pwr (vaF pt key v) (pt v) (pw key (v : Int)).toNat
def voF (pt K C : Nat → Int64) : Nat → Int64
  | 0 => Int64.ofNat 0
  | t + 1 => voF pt K C t + C t * vaF pt (K t) 8
theorem va_s {pt : Nat → Int64} {key z : Int64} {v k : Int} (h0 : 0 ≤ v) (h : z = pwr (vaF pt key v.toNat) (pt v.toNat) k.toNat) (e : k = pw key v) : z = vaF pt key (v + 1).toNat := by
  rw [show (v + 1).toNat = v.toNat + 1 by omega, h, e]
  show _ = pwr (vaF pt key v.toNat) (pt v.toNat) (pw key ((v.toNat : Nat) : Int)).toNat
  rw [show ((v.toNat : Nat) : Int) = v by omega]
theorem vo_s {pt K C : Nat → Int64} {z w : Int64} {t : Int} (h0 : 0 ≤ t) (h : z = voF pt K C t.toNat) (e : w = C t.toNat * vaF pt (K t.toNat) 8) : z + w = voF pt K C (t + 1).toNat := by
  rw [show (t + 1).toNat = t.toNat + 1 by omega, h, e]
  rfl
theorem pwr_d {x y z : Int64} {a b : Int} (h : z = pwr x y (a - b).toNat) (h1 : 0 < b) (h2 : b ≤ a) : z * y = pwr x y (a - (b + -1)).toNat := by
  rw [show (a - (b + -1)).toNat = (a - b).toNat + 1 by omega, h]
  rfl
