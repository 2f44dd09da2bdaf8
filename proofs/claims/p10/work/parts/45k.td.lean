/-! told: the hypotheses counted. -/
def hcF (h : Nat → Bool) : Nat → Int
  | 0 => 0
  | i + 1 => hcF h i + if h i = true then 1 else 0
theorem hc_b (h : Nat → Bool) : ∀ n : Nat, 0 ≤ hcF h n ∧ hcF h n ≤ n := by
  intro n
  induction n with
  | zero => exact ⟨Int.le_refl _, Int.le_refl _⟩
  | succ n ih =>
    show 0 ≤ hcF h n + (if h n = true then 1 else 0) ∧ hcF h n + (if h n = true then 1 else 0) ≤ ((n + 1 : Nat) : Int)
    split <;> omega
theorem hc_s {h : Nat → Bool} {x c v : Int} (hx : 0 ≤ x) (e : c = hcF h x.toNat) (hv : v = c + if h x.toNat = true then 1 else 0) : v = hcF h (x + 1).toNat := by
  rw [show (x + 1).toNat = x.toNat + 1 by omega, hv, e]
  rfl
theorem hyK_q {az : Nat → Nat → Int32} {i : Nat} {q : Int} (h : az 55 i = vz q) (hr : -2147483648 ≤ q ∧ q < 2147483648) : hyK az i = true ↔ q ≠ 0 := by
  unfold hyK
  rw [h, decide_eq_true_iff]
  constructor
  · exact fun z e => z (by rw [e]; rfl)
  · exact fun z e => z ((vz_inj hr (by decide)).mp (e.trans rfl))
