def gck (F : Nat → Int64) : Nat → Nat
  | 0 => 0
  | t + 1 => Nat.gcd (F t).toInt.natAbs (gck F t)
def sgk (F : Nat → Int64) (n : Nat) : Int := if (F 0).toInt < 0 then -(gck F n : Int) else (gck F n : Int)
theorem gck_bd {F : Nat → Int64} : ∀ n : Nat, (∀ t, t < n → gl (F t)) → gck F n ≤ 67108864 ∧ (0 < n → 0 < gck F n) := by
  intro n
  induction n with
  | zero => intro _; exact ⟨Nat.zero_le _, fun h => by omega⟩
  | succ n ih =>
    intro h
    have h1 := h n (by omega)
    have h2 := h1.1
    have h3 := h1.2
    have hp : 0 < (F n).toInt.natAbs := by omega
    show Nat.gcd _ _ ≤ _ ∧ (_ → 0 < Nat.gcd _ _)
    have h4 := Nat.gcd_le_left (gck F n) hp
    exact ⟨by omega, fun _ => Nat.gcd_pos_of_pos_left _ hp⟩
theorem lab_i {v : Int64} (h : gl v) : (if 0 < v then v else -v).toInt = (v.toInt.natAbs : Int) := by
  have h1 := h.1
  have h2 := h.2
  have e : (0 < v) ↔ 0 < v.toInt := Int64.lt_iff_toInt_lt
  by_cases q : 0 < v
  · rw [if_pos q]
    have := e.mp q
    omega
  · rw [if_neg q, Int64.toInt_neg, Int.bmod_eq_of_le]
    · have : ¬ 0 < v.toInt := fun z => q (e.mpr z)
      omega
    · omega
    · omega
theorem lab_b {v : Int64} (h : gl v) : 0 ≤ (if 0 < v then v else -v).toInt ∧ (if 0 < v then v else -v).toInt ≤ 67108864 := by
  have h2 := h.2
  rw [lab_i h]
  omega
theorem gck_s {F : Nat → Int64} {x : Int} {y g : Int64} (hx : 0 ≤ x) (hy : y.toInt = (gck F x.toNat : Int)) (hl : gl (F x.toNat)) (hg : g.toInt = ((Nat.gcd (if 0 < F x.toNat then F x.toNat else -(F x.toNat)).toInt.natAbs y.toInt.natAbs : Nat) : Int)) : g.toInt = (gck F (x + 1).toNat : Int) := by
  rw [hg, show (x + 1).toNat = x.toNat + 1 by omega, hy, lab_i hl]
  rfl
theorem ngi {y : Int64} (h : 0 ≤ y.toInt ∧ y.toInt ≤ 67108864) : (-y).toInt = -y.toInt := by
  rw [Int64.toInt_neg, Int.bmod_eq_of_le] <;> omega
/-- what making primitive leaves -/
def pmK (al al1 : Nat → Nat → Int64) (a : Nat) (n : Int) : Prop := (∀ b, b ≠ a + 2 → al1 b = al b) ∧ ∀ t : Nat, (t : Int) < n → al1 (a + 2) t = al (a + 2) t / Int64.ofInt (sgk (al (a + 2)) n.toNat)
def pmI (al al1 : Nat → Nat → Int64) (a : Nat) (y : Int64) (x : Int) : Prop := (∀ b, b ≠ a + 2 → al1 b = al b) ∧ ∀ t : Nat, ((t : Int) < x → al1 (a + 2) t = al (a + 2) t / y) ∧ (x ≤ (t : Int) → al1 (a + 2) t = al (a + 2) t)
theorem pmI_0 {al : Nat → Nat → Int64} {a : Nat} {y : Int64} : pmI al al a y 0 := ⟨fun _ _ => rfl, fun t => ⟨fun h => by omega, fun _ => rfl⟩⟩
theorem pmI_s {al al1 al2 : Nat → Nat → Int64} {a : Nat} {y : Int64} {x : Int} (h : pmI al al1 a y x) (hx : 0 ≤ x) (hd : al2 = uA al1 (a + 2) (vp_updL (al1 (a + 2)) x.toNat (al1 (a + 2) x.toNat / y))) : pmI al al2 a y (x + 1) := by
  refine ⟨fun b hb => by rw [hd, uA_o hb]; exact h.1 b hb, fun t => ⟨fun ht => ?_, fun ht => ?_⟩⟩
  · rw [hd, uA_s]
    by_cases e : t = x.toNat
    · rw [e, up_s, (h.2 x.toNat).2 (by omega)]
    · rw [up_o e]; exact (h.2 t).1 (by omega)
  · rw [hd, uA_s, up_o (by omega)]; exact (h.2 t).2 (by omega)
theorem pmK_e {al al1 : Nat → Nat → Int64} {a : Nat} {y : Int64} {x n : Int} (h : pmI al al1 a y x) (hx : x = n) (hy : y.toInt = sgk (al (a + 2)) n.toNat) : pmK al al1 a n := by
  have e : Int64.ofInt (sgk (al (a + 2)) n.toNat) = y := by rw [← hy]; exact Int64.ofInt_toInt _
  refine ⟨h.1, fun t ht => ?_⟩
  rw [e]
  exact (h.2 t).1 (by omega)
theorem pmK_1 {al : Nat → Nat → Int64} {a : Nat} {n : Int} (h : n ≤ 0 ∨ sgk (al (a + 2)) n.toNat = 1) : pmK al al a n := by
  refine ⟨fun _ _ => rfl, fun t ht => ?_⟩
  rcases h with h | h
  · omega
  · rw [h]
    have : Int64.ofInt 1 = 1 := rfl
    rw [this, Int64.div_one]
