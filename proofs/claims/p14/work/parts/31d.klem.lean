theorem ty_sp : ∀ a, a < 238 → ty a = 1 → ty (a + 1) ≠ 1 ∧ ty (a + 2) ≠ 1 ∧ ty (a + 1) ≠ 3 ∧ ty (a + 2) ≠ 3 := by decide +kernel
theorem ty_sep {a b : Nat} (ha : ty a = 1) (hb : ty b = 1) (h : a ≠ b) : a ≠ b + 1 ∧ a ≠ b + 2 ∧ b ≠ a + 1 ∧ b ≠ a + 2 := by
  have h1 := ty_sp a (ty_lo (by rw [ha]; decide)) ha
  have h2 := ty_sp b (ty_lo (by rw [hb]; decide)) hb
  refine ⟨fun e => ?_, fun e => ?_, fun e => ?_, fun e => ?_⟩
  · rw [e] at ha; exact h2.1 ha
  · rw [e] at ha; exact h2.2.1 ha
  · rw [e] at hb; exact h1.1 hb
  · rw [e] at hb; exact h1.2.1 hb
theorem ty_not {a : Nat} (h : ty a = 3) : ty a ≠ 1 := by rw [h]; decide
/-- what copy leaves -/
def cpK (al al1 : Nat → Nat → Int64) (a b : Nat) (n : Int) : Prop := (∀ c, c ≠ a + 1 → c ≠ a + 2 → al1 c = al c) ∧ ∀ t : Nat, (t : Int) < n → al1 (a + 1) t = al (b + 1) t ∧ al1 (a + 2) t = al (b + 2) t
theorem cpK_i {al al1 al2 : Nat → Nat → Int64} {a b : Nat} {n : Int} (hs : a ≠ b + 1 ∧ a ≠ b + 2 ∧ b ≠ a + 1 ∧ b ≠ a + 2) (hne : a ≠ b) (h1 : al1 = uA al (a + 1) (va_cpy (al (b + 1)) (al (a + 1)) (0 : Int).toNat (0 : Int).toNat n.toNat)) (h2 : al2 = uA al1 (a + 2) (va_cpy (al1 (b + 2)) (al1 (a + 2)) (0 : Int).toNat (0 : Int).toNat n.toNat)) : cpK al al2 a b n := by
  refine ⟨fun c c1 c2 => by rw [h2, uA_o c2, h1, uA_o c1], fun t ht => ⟨?_, ?_⟩⟩
  · rw [h2, uA_o (by omega), h1, uA_s]
    unfold va_cpy
    rw [if_pos (by omega)]
    congr 1
    omega
  · rw [h2, uA_s]
    unfold va_cpy
    rw [if_pos (by omega), h1, uA_o (by omega)]
    congr 1
    omega
/-- a common divisor, turn by turn -/
def gI (a b : Nat) (x y : Int64) (k : Int) : Prop := (0 ≤ x.toInt ∧ x.toInt ≤ 67108864) ∧ (0 ≤ y.toInt ∧ y.toInt ≤ 67108864) ∧ Nat.gcd x.toInt.natAbs y.toInt.natAbs = Nat.gcd a b ∧ (k = 0 ∨ (0 < k ∧ y.toInt < x.toInt ∧ x.toInt.natAbs * y.toInt.natAbs * 2 ^ (k - 1).toNat ≤ 2 ^ 54))
theorem gI_0 {x y : Int64} (hx : 0 ≤ x.toInt ∧ x.toInt ≤ 67108864) (hy : 0 ≤ y.toInt ∧ y.toInt ≤ 67108864) : gI x.toInt.natAbs y.toInt.natAbs x y 0 := ⟨hx, hy, rfl, Or.inl rfl⟩
theorem rem_i {x y : Int64} (hx : 0 ≤ x.toInt ∧ x.toInt ≤ 67108864) (hy : 0 < y.toInt ∧ y.toInt ≤ 67108864) : (x - x / y * y).toInt = ((x.toInt.natAbs % y.toInt.natAbs : Nat) : Int) := by
  have e1 : (x / y).toInt = x.toInt / y.toInt := by
    rw [Int64.toInt_div, Int.bmod_eq_of_le, Int.tdiv_eq_ediv_of_nonneg hx.1]
    · rw [Int.tdiv_eq_ediv_of_nonneg hx.1]
      have := Int.ediv_nonneg hx.1 (by omega : (0 : Int) ≤ y.toInt)
      omega
    · rw [Int.tdiv_eq_ediv_of_nonneg hx.1]
      have := Int.ediv_le_self y.toInt hx.1
      omega
  have h3 : 0 ≤ x.toInt % y.toInt ∧ x.toInt % y.toInt < y.toInt := ⟨Int.emod_nonneg _ (by omega), Int.emod_lt_of_pos _ hy.1⟩
  have h4 : x.toInt / y.toInt * y.toInt = x.toInt - x.toInt % y.toInt := by have := Int.mul_ediv_add_emod x.toInt y.toInt; rw [Int.mul_comm] at this; omega
  have e2 : (x / y * y).toInt = x.toInt - x.toInt % y.toInt := by
    rw [Int64.toInt_mul, e1, h4, Int.bmod_eq_of_le] <;> omega
  rw [Int64.toInt_sub, e2, Int.bmod_eq_of_le] <;> first | omega | skip
  have h5 : ((x.toInt.natAbs % y.toInt.natAbs : Nat) : Int) = x.toInt % y.toInt := by
    rw [Int.natCast_emod, Int.natAbs_of_nonneg hx.1, Int.natAbs_of_nonneg (by omega)]
  omega
theorem gI_s {a b : Nat} {x y r : Int64} {k : Int} (h : gI a b x y k) (hk : 0 ≤ k) (hy : ¬ y = 0) (hr : r = x - x / y * y) : gI a b y r (k + 1) := by
  obtain ⟨h1, h2, h3, h4⟩ := h
  have y0 : y.toInt ≠ 0 := fun e => hy (Int64.toInt_inj.mp (by rw [e]; rfl))
  have hm := rem_i h1 (y := y) (by omega)
  rw [← hr] at hm
  have h5 : x.toInt.natAbs % y.toInt.natAbs < y.toInt.natAbs := Nat.mod_lt _ (by omega)
  refine ⟨by omega, by omega, ?_, Or.inr ⟨by omega, by omega, ?_⟩⟩
  · have e : r.toInt.natAbs = x.toInt.natAbs % y.toInt.natAbs := by omega
    rw [e, ← h3, Nat.gcd_comm, ← Nat.gcd_rec, Nat.gcd_comm]
  · have e : r.toInt.natAbs = x.toInt.natAbs % y.toInt.natAbs := by omega
    rw [e, show (k + 1 - 1).toNat = k.toNat by omega]
    rcases h4 with h4 | ⟨h4, h6, h7⟩
    · rw [h4]
      have : y.toInt.natAbs * (x.toInt.natAbs % y.toInt.natAbs) ≤ 67108864 * 67108864 := Nat.mul_le_mul (by omega) (by omega)
      have e9 : (0 : Int).toNat = 0 := rfl
      rw [e9, Nat.pow_zero, Nat.mul_one]
      omega
    · have e2 : k.toNat = (k - 1).toNat + 1 := by omega
      rw [e2, Nat.pow_succ]
      have h8 : 2 * (x.toInt.natAbs % y.toInt.natAbs) ≤ x.toInt.natAbs := by
        have q1 := Nat.div_add_mod x.toInt.natAbs y.toInt.natAbs
        have q2 : 1 ≤ x.toInt.natAbs / y.toInt.natAbs := (Nat.one_le_div_iff (by omega)).mpr (by omega)
        have q3 : y.toInt.natAbs * 1 ≤ y.toInt.natAbs * (x.toInt.natAbs / y.toInt.natAbs) := Nat.mul_le_mul_left _ q2
        omega
      have h9 : y.toInt.natAbs * (2 * (x.toInt.natAbs % y.toInt.natAbs)) ≤ y.toInt.natAbs * x.toInt.natAbs := Nat.mul_le_mul_left _ h8
      have e3 : y.toInt.natAbs * (x.toInt.natAbs % y.toInt.natAbs) * (2 ^ (k - 1).toNat * 2) = y.toInt.natAbs * (2 * (x.toInt.natAbs % y.toInt.natAbs)) * 2 ^ (k - 1).toNat := by
        simp only [Nat.mul_assoc, Nat.mul_comm, Nat.mul_left_comm]
      rw [e3]
      refine Nat.le_trans (Nat.mul_le_mul_right _ h9) ?_
      rw [Nat.mul_comm y.toInt.natAbs]
      exact h7
theorem gI_e {a b : Nat} {x y : Int64} {k : Int} (h : gI a b x y k) (hk : k = 128 ∨ y = 0) : x.toInt = (Nat.gcd a b : Int) := by
  obtain ⟨h1, h2, h3, h4⟩ := h
  have y0 : y.toInt = 0 := by
    rcases hk with hk | hk
    · rcases h4 with h4 | ⟨_, h5, h6⟩
      · omega
      · by_cases q : y.toInt = 0
        · exact q
        · exfalso
          have : 1 ≤ x.toInt.natAbs * y.toInt.natAbs := Nat.mul_pos (by omega) (by omega)
          have h7 : 1 * 2 ^ (k - 1).toNat ≤ x.toInt.natAbs * y.toInt.natAbs * 2 ^ (k - 1).toNat := Nat.mul_le_mul_right _ this
          rw [hk] at h6 h7
          have e : ((128 : Int) - 1).toNat = 127 := rfl
          rw [e] at h6 h7
          have : (2 : Nat) ^ 54 < 1 * 2 ^ 127 := by decide
          omega
    · rw [hk]; rfl
  rw [y0] at h3
  rw [show (0 : Int).natAbs = 0 from rfl, Nat.gcd_zero_right] at h3
  omega
