/-! Keys as numbers of eight digits. -/
def dgt (N p : Nat) : Nat := N / 256 ^ p % 256
def mk8 (e : Nat → Nat) : Nat → Nat
  | 0 => 0
  | p + 1 => mk8 e p + e p * 256 ^ p
theorem dgt_lt (N p : Nat) : dgt N p < 256 := Nat.mod_lt _ (by decide)
theorem pw_pos (p : Nat) : 0 < 256 ^ p := Nat.pow_pos (by decide)
theorem mk8_lt {e : Nat → Nat} : ∀ n : Nat, (∀ p, p < n → e p < 256) → mk8 e n < 256 ^ n := by
  intro n
  induction n with
  | zero => intro _; exact Nat.one_pos
  | succ n ih =>
    intro h
    have h1 := ih fun p hp => h p (by omega)
    have h2 := h n (by omega)
    show mk8 e n + e n * 256 ^ n < 256 ^ (n + 1)
    rw [Nat.pow_succ]
    have h3 : e n * 256 ^ n ≤ 255 * 256 ^ n := Nat.mul_le_mul_right _ (by omega)
    omega
theorem mk8_cg {e f : Nat → Nat} : ∀ n : Nat, (∀ p, p < n → e p = f p) → mk8 e n = mk8 f n := by
  intro n
  induction n with
  | zero => intro _; rfl
  | succ n ih =>
    intro h
    show mk8 e n + e n * 256 ^ n = mk8 f n + f n * 256 ^ n
    rw [ih fun p hp => h p (by omega), h n (by omega)]
theorem mk8_add {e f : Nat → Nat} : ∀ n : Nat, mk8 (fun p => e p + f p) n = mk8 e n + mk8 f n := by
  intro n
  induction n with
  | zero => rfl
  | succ n ih =>
    show mk8 (fun p => e p + f p) n + (e n + f n) * 256 ^ n = mk8 e n + e n * 256 ^ n + (mk8 f n + f n * 256 ^ n)
    rw [ih, Nat.add_mul]
    omega
theorem dgt_mk8 {e : Nat → Nat} {p : Nat} : ∀ n : Nat, (∀ q, q < n → e q < 256) → p < n → dgt (mk8 e n) p = e p := by
  intro n
  induction n with
  | zero => intro _ h; omega
  | succ n ih =>
    intro h hp
    have h1 := mk8_lt n fun q hq => h q (by omega)
    unfold dgt
    show (mk8 e n + e n * 256 ^ n) / 256 ^ p % 256 = e p
    by_cases q : p = n
    · subst q
      rw [Nat.add_mul_div_right _ _ (pw_pos p), Nat.div_eq_of_lt h1, Nat.zero_add]
      exact Nat.mod_eq_of_lt (h p (by omega))
    · have h2 := ih (fun q hq => h q (by omega)) (by omega)
      have h3 : e n * 256 ^ n = (e n * 256 ^ (n - p - 1) * 256) * 256 ^ p := by
        rw [Nat.mul_assoc, Nat.mul_assoc, ← Nat.pow_succ', ← Nat.pow_add]
        congr 2
        omega
      rw [h3, Nat.add_mul_div_right _ _ (pw_pos p), Nat.add_mul_mod_self_right]
      exact h2
theorem dgt_hi {N n p : Nat} (h : N < 256 ^ n) (hp : n ≤ p) : dgt N p = 0 := by
  unfold dgt
  rw [Nat.div_eq_of_lt (Nat.lt_of_lt_of_le h (Nat.pow_le_pow_right (by decide) hp))]
theorem mk8_dgt {N : Nat} : ∀ n : Nat, mk8 (dgt N) n = N % 256 ^ n := by
  intro n
  induction n with
  | zero => show 0 = N % 1; omega
  | succ n ih =>
    show mk8 (dgt N) n + dgt N n * 256 ^ n = N % 256 ^ (n + 1)
    rw [ih, Nat.pow_succ, Nat.mod_mul]
    unfold dgt
    rw [Nat.mul_comm]
theorem mk8_self {N n : Nat} (h : N < 256 ^ n) : mk8 (dgt N) n = N := by rw [mk8_dgt, Nat.mod_eq_of_lt h]
theorem dgt_ext {N M n : Nat} (hN : N < 256 ^ n) (hM : M < 256 ^ n) (h : ∀ p, p < n → dgt N p = dgt M p) : N = M := by
  rw [← mk8_self hN, ← mk8_self hM]
  exact mk8_cg n h
/-- no digit runs over -/
theorem dgt_add {N M n : Nat} (hN : N < 256 ^ n) (hM : M < 256 ^ n) (h : ∀ p, p < n → dgt N p + dgt M p < 256) : N + M < 256 ^ n ∧ ∀ p, p < n → dgt (N + M) p = dgt N p + dgt M p := by
  have e : N + M = mk8 (fun p => dgt N p + dgt M p) n := by rw [mk8_add, mk8_self hN, mk8_self hM]
  rw [e]
  exact ⟨mk8_lt n h, fun p hp => dgt_mk8 n h hp⟩
/-- one digit alone -/
theorem one_mk8 {d p : Nat} : ∀ n : Nat, mk8 (fun q => if q = p then d else 0) n = if p < n then d * 256 ^ p else 0 := by
  intro n
  induction n with
  | zero => rfl
  | succ n ih =>
    show mk8 _ n + (if n = p then d else 0) * 256 ^ n = _
    rw [ih]
    by_cases q : n = p
    · subst q
      rw [if_neg (by omega), if_pos rfl, if_pos (by omega), Nat.zero_add]
    · rw [if_neg q, Nat.zero_mul, Nat.add_zero]
      by_cases q2 : p < n
      · rw [if_pos q2, if_pos (by omega)]
      · rw [if_neg q2, if_neg (by omega)]
theorem dgt_one {d p n : Nat} (hd : d < 256) (hp : p < n) : d * 256 ^ p < 256 ^ n ∧ ∀ q, q < n → dgt (d * 256 ^ p) q = if q = p then d else 0 := by
  have e : d * 256 ^ p = mk8 (fun q => if q = p then d else 0) n := by rw [one_mk8, if_pos hp]
  have hb : ∀ q, q < n → (if q = p then d else 0) < 256 := fun q _ => by split <;> omega
  rw [e]
  exact ⟨mk8_lt n hb, fun q hq => dgt_mk8 n hb hq⟩
/-- a part of a digit is taken -/
theorem dgt_sub {N n p d : Nat} (hN : N < 256 ^ n) (hp : p < n) (hd : d ≤ dgt N p) : d * 256 ^ p ≤ N ∧ N - d * 256 ^ p < 256 ^ n ∧ ∀ q, q < n → dgt (N - d * 256 ^ p) q = if q = p then dgt N p - d else dgt N q := by
  have hb : ∀ q, q < n → (if q = p then dgt N p - d else dgt N q) < 256 := fun q _ => by
    have h1 := dgt_lt N p
    have h2 := dgt_lt N q
    split <;> omega
  have e : N = mk8 (fun q => if q = p then dgt N p - d else dgt N q) n + d * 256 ^ p := by
    have e1 : d * 256 ^ p = mk8 (fun q => if q = p then d else 0) n := by rw [one_mk8, if_pos hp]
    rw [e1, ← mk8_add]
    conv => lhs; rw [← mk8_self hN]
    refine mk8_cg n fun q _ => ?_
    show dgt N q = (if q = p then dgt N p - d else dgt N q) + if q = p then d else 0
    by_cases h : q = p
    · rw [if_pos h, if_pos h, h]; omega
    · rw [if_neg h, if_neg h]; omega
  have e2 : N - d * 256 ^ p = mk8 (fun q => if q = p then dgt N p - d else dgt N q) n := by omega
  rw [e2]
  exact ⟨by omega, mk8_lt n hb, fun q hq => dgt_mk8 n hb hq⟩
