def tmok (ai : Nat → Nat → Int) : Prop := (∀ s, 0 ≤ ai 242 s ∧ ai 242 s ≤ 60) ∧ (∀ j, 0 ≤ ai 240 j ∧ ai 240 j < 8)
theorem tmok_u {ai : Nat → Nat → Int} {a i : Nat} {q : Int} (h : tmok ai) (h1 : (242 : Nat) ≠ a) (h2 : (240 : Nat) ≠ a) : tmok (u2 ai a i q) := ⟨fun s => by rw [u2_a h1]; exact h.1 s, fun s => by rw [u2_a h2]; exact h.2 s⟩
theorem tmok_c {ai : Nat → Nat → Int} {i : Nat} {q : Int} (h : tmok ai) (hq : 0 ≤ q ∧ q ≤ 60) : tmok (u2 ai 242 i q) := by
  refine ⟨fun s => ?_, fun s => by rw [u2_a (by decide)]; exact h.2 s⟩
  by_cases hs : s = i
  · rw [hs, u2_s]; exact hq
  · rw [u2_o hs]; exact h.1 s
theorem tmok_o {ai : Nat → Nat → Int} {i : Nat} {q : Int} (h : tmok ai) (hq : 0 ≤ q ∧ q < 8) : tmok (u2 ai 240 i q) := by
  refine ⟨fun s => by rw [u2_a (by decide)]; exact h.1 s, fun s => ?_⟩
  by_cases hs : s = i
  · rw [hs, u2_s]; exact hq
  · rw [u2_o hs]; exact h.2 s
/-! The power of a variable in a key, and the degree, exactly. -/
def pwI (k : Int64) (v : Int) : Int32 := ((k.toUInt64 >>> ((vz (8 * v)).toInt64.toUInt64 &&& Int64.toUInt64 63)).toInt64.toInt32) &&& vz 255
def pw (k : Int64) (v : Int) : Int := (pwI k v).toInt
theorem pw_vz (k : Int64) (v : Int) : pwI k v = vz (pw k v) := (Int32.ofInt_toInt _).symm
theorem pw_bd (k : Int64) (v : Int) : 0 ≤ pw k v ∧ pw k v ≤ 255 := by
  unfold pw pwI
  obtain ⟨q, e, h⟩ := vz_ex ((k.toUInt64 >>> ((vz (8 * v)).toInt64.toUInt64 &&& Int64.toUInt64 63)).toInt64.toInt32)
  rw [e]
  exact vz_and h (by decide) (by decide)
def dgf (ky : Nat → Int64) (b : Nat) (v : Int) : Nat → Int
  | 0 => 0
  | t + 1 => if dgf ky b v t < pw (ky (b + t)) v then pw (ky (b + t)) v else dgf ky b v t
theorem dgf_bd (ky : Nat → Int64) (b : Nat) (v : Int) : ∀ t, 0 ≤ dgf ky b v t ∧ dgf ky b v t ≤ 255 := by
  intro t
  induction t with
  | zero => exact ⟨by show (0 : Int) ≤ 0; decide, by show (0 : Int) ≤ 255; decide⟩
  | succ t ih =>
    simp only [dgf]
    split
    · exact pw_bd _ _
    · exact ih
theorem dg_step {ky : Nat → Int64} {v i t x y : Int} (h0 : 0 ≤ i) (h1 : 0 ≤ t) (hx : x = dgf ky (60 * i).toNat v t.toNat) (hy : (x < pw (ky (60 * i + t).toNat) v ∧ y = pw (ky (60 * i + t).toNat) v) ∨ (pw (ky (60 * i + t).toNat) v ≤ x ∧ y = x)) : y = dgf ky (60 * i).toNat v (t + 1).toNat := by
  have e1 : (t + 1).toNat = t.toNat + 1 := by omega
  have e2 : (60 * i + t).toNat = (60 * i).toNat + t.toNat := by omega
  rw [e2] at hy
  rw [e1]
  simp only [dgf]
  rw [← hx]
  rcases hy with ⟨h2, h3⟩ | ⟨h2, h3⟩
  · rw [if_pos h2]; exact h3
  · rw [if_neg (by omega)]; exact h3
def mpf (fr : Nat → Int32) (od : Nat → Int) (dg : Int → Int) : Nat → Int
  | 0 => -1
  | i + 1 => if fr (od i).toNat = 0 ∧ 0 < dg (od i) then (i : Int) else mpf fr od dg i
theorem mp_hit {fr : Nat → Int32} {od : Nat → Int} {dg : Int → Int} {x q : Int} (h0 : 0 ≤ x) (hq : fr (od x.toNat).toNat = vz q) (q0 : q = 0) (hd : 0 < dg (od x.toNat)) : mpf fr od dg (x + 1).toNat = x := by
  have e1 : (x + 1).toNat = x.toNat + 1 := by omega
  rw [e1]
  simp only [mpf]
  rw [if_pos ⟨by rw [hq, q0]; rfl, hd⟩]
  omega
theorem mp_miss {fr : Nat → Int32} {od : Nat → Int} {dg : Int → Int} {x y q : Int} (h0 : 0 ≤ x) (hy : y + 1 = x) (hq : fr (od x.toNat).toNat = vz q) (hr : -2147483648 ≤ q ∧ q < 2147483648) (h : q ≠ 0 ∨ dg (od x.toNat) ≤ 0) : mpf fr od dg (x + 1).toNat = mpf fr od dg (y + 1).toNat := by
  have e1 : (x + 1).toNat = x.toNat + 1 := by omega
  rw [e1, hy]
  simp only [mpf]
  rw [if_neg]
  rintro ⟨h1, h2⟩
  rcases h with h | h
  · rw [hq] at h1
    exact h ((vz_inj hr (by decide)).mp h1)
  · omega
theorem mpf_bd (fr : Nat → Int32) (od : Nat → Int) (dg : Int → Int) : ∀ n : Nat, -1 ≤ mpf fr od dg n ∧ mpf fr od dg n < (n : Int) := by
  intro n
  induction n with
  | zero => exact ⟨by show (-1 : Int) ≤ -1; decide, by show (-1 : Int) < 0; decide⟩
  | succ n ih =>
    simp only [mpf]
    split <;> omega
