def frK (az : Nat → Nat → Int32) (ai : Nat → Nat → Int) : Nat → Bool := fun p => decide (az 3 (ai 5 p).toNat ≠ 0)
/-- dividing by the common divisor -/
theorem gcP_dvd : ∀ (l : Po) (x : Nat × Int64), x ∈ l → gcP l ∣ x.2.toInt.natAbs := by
  intro l
  have key : ∀ (n : Nat) (l : Po), l.length = n → ∀ x, x ∈ l → gcP l ∣ x.2.toInt.natAbs := by
    intro n
    induction n with
    | zero =>
      intro l hl x hx
      rw [List.eq_nil_of_length_eq_zero hl] at hx
      cases hx
    | succ n ih =>
      intro l hl x hx
      obtain ⟨l0, y, rfl, hl0⟩ := snoc_of hl
      rw [gcP_snoc]
      rcases List.mem_append.mp hx with h | h
      · exact Nat.dvd_trans (Nat.gcd_dvd_left _ _) (ih l0 hl0 x h)
      · rw [List.mem_singleton.mp h]
        exact Nat.gcd_dvd_right _ _
  exact key _ l rfl
theorem div_ok {c : Int64} {g : Nat} {s : Int} (hc : c.toInt ≠ 0 ∧ -67108864 ≤ c.toInt ∧ c.toInt ≤ 67108864) (hg : g ∣ c.toInt.natAbs) (hs : s = (g : Int) ∨ s = -(g : Int)) : (c / Int64.ofInt s).toInt ≠ 0 ∧ -67108864 ≤ (c / Int64.ofInt s).toInt ∧ (c / Int64.ofInt s).toInt ≤ 67108864 := by
  obtain ⟨k, hk⟩ := hg
  have hk0 : k ≠ 0 := fun e => by rw [e, Nat.mul_zero] at hk; omega
  have hg0 : g ≠ 0 := fun e => by rw [e, Nat.zero_mul] at hk; omega
  have hgk : g ≤ g * k := Nat.le_mul_of_pos_right _ (by omega)
  have hkk : k ≤ g * k := Nat.le_mul_of_pos_left _ (by omega)
  have es : (Int64.ofInt s).toInt = s := Int64.toInt_ofInt_of_le (by omega) (by omega)
  have hc2 : c.toInt = ((g * k : Nat) : Int) ∨ c.toInt = -((g * k : Nat) : Int) := by omega
  have ed : c.toInt.tdiv s = (k : Int) ∨ c.toInt.tdiv s = -(k : Int) := by
    rcases hc2 with e | e <;> rcases hs with e2 | e2 <;> rw [e, e2]
    · left; rw [← Int.ofNat_tdiv, Nat.mul_div_cancel_left _ (by omega)]
    · right; rw [Int.tdiv_neg, ← Int.ofNat_tdiv, Nat.mul_div_cancel_left _ (by omega)]
    · right; rw [Int.neg_tdiv, ← Int.ofNat_tdiv, Nat.mul_div_cancel_left _ (by omega)]
    · left; rw [Int.neg_tdiv, Int.tdiv_neg, Int.neg_neg, ← Int.ofNat_tdiv, Nat.mul_div_cancel_left _ (by omega)]
  have e : (c / Int64.ofInt s).toInt = c.toInt.tdiv s := by
    rw [Int64.toInt_div, es, Int.bmod_eq_of_le] <;> omega
  rw [e]
  omega
theorem gk_pr {nv : Nat} {l : Po} (h : gk nv l) : gk nv (prP l) := by
  obtain ⟨⟨h1, h2⟩, ⟨h3, h4⟩, h5⟩ := h
  have hs : ∀ x, x ∈ l → sgP l = (gcP l : Int) ∨ sgP l = -(gcP l : Int) := fun x hx => by
    cases l with
    | nil => cases hx
    | cons y l =>
      by_cases q : y.2.toInt < 0
      · exact Or.inr (if_pos q)
      · exact Or.inl (if_neg q)
  have hd : ∀ x, x ∈ l → (x.2 / Int64.ofInt (sgP l)).toInt ≠ 0 ∧ -67108864 ≤ (x.2 / Int64.ofInt (sgP l)).toInt ∧ (x.2 / Int64.ofInt (sgP l)).toInt ≤ 67108864 := fun x hx => div_ok ⟨fun z => h2 x hx (Int64.toInt_inj.mp (by rw [z]; rfl)), (h4 x hx).1.1, (h4 x hx).1.2⟩ (gcP_dvd l x hx) (hs x hx)
  unfold prP
  refine ⟨⟨?_, fun x hx => ?_⟩, ⟨by rw [List.length_map]; exact h3, fun x hx => ?_⟩, fun x hx => ?_⟩
  · rw [List.pairwise_map]; exact h1
  · obtain ⟨y, hy, rfl⟩ := List.mem_map.mp hx
    have := (hd y hy).1
    intro z
    apply this
    have z : y.2 / Int64.ofInt (sgP l) = 0 := z
    rw [z]
    rfl
  · obtain ⟨y, hy, rfl⟩ := List.mem_map.mp hx
    exact ⟨(hd y hy).2, (h4 y hy).2⟩
  · obtain ⟨y, hy, rfl⟩ := List.mem_map.mp hx
    exact h5 y hy
/-- what taking a polynomial into a row leaves -/
def tkR (nv : Nat) (fr : Nat → Bool) (Z Z1 : Nat → Nat → Int) (al al1 : Nat → Nat → Int64) (a : Nat) (l : Po) : Prop := (∀ b, b ≠ a → b ≠ a + 1 → Z1 b = Z b) ∧ (∀ b, b ≠ a + 2 → b ≠ a + 3 → al1 b = al b) ∧ pL Z1 al1 (a + 1) l ∧ Z1 a 0 = plP fr nv l ∧ (plP fr nv l ≠ -1 → Z1 a 1 = (dmP fr nv l : Int))
theorem take_e {Z Z2 Z3 Z4 : Nat → Nat → Int} {al al2 al3 : Nat → Nat → Int64} {ai : Nat → Nat → Int} {az : Nat → Nat → Int32} {a b nv : Nat} {l : Po} {d : Int} (hL : pL Z al b l) (hg : gk nv l) (hn : nv ≤ 8) (ez : Z 2 0 = (nv : Int)) (ha : a ≠ 2 ∧ a + 1 ≠ 2) (h2 : Z2 = u2 Z (a + 1) 0 (Z b 0)) (hc : cpK al al2 (a + 1) b (Z b 0)) (hp : pmK al2 al3 (a + 1) (Z2 (a + 1) 0)) (h3 : Z3 = u2 Z2 a 0 (mpk (az 3) (ai 5) (fun p => dgk (al3 (a + 1 + 1)) p (Z2 (a + 1) 0).toNat) (Z2 2 0).toNat)) (h4 : Z4 = u2 Z3 a 1 d) (hd : Z3 a 0 ≠ -1 → d = dgk (al3 (a + 1 + 1)) (Z3 a 0) (Z3 (a + 1) 0).toNat) : tkR nv (frK az ai) Z Z4 al al3 a (prP l) := by
  have e2 : Z2 (a + 1) 0 = Z b 0 := by rw [h2, u2_s]
  have e22 : Z2 2 0 = (nv : Int) := by rw [h2, u2_a (by omega), ez]
  have p2 : pL Z2 al2 (a + 1) l := pL_cp hL e2 hc
  have p3 : pL Z2 al3 (a + 1) (prP l) := pL_pm p2 hp
  have gp := gk_pr hg
  have em := pL_mp (fz := az 3) (od := ai 5) p3 gp hn (m := nv) (by omega)
  have e30 : Z3 a 0 = plP (frK az ai) nv (prP l) := by
    rw [h3, u2_s, e22, Int.toNat_natCast]
    exact em
  have e31 : Z3 (a + 1) = Z2 (a + 1) := by rw [h3, u2_af (by omega)]
  have e41 : Z4 (a + 1) = Z2 (a + 1) := by rw [h4, u2_af (by omega), e31]
  refine ⟨fun c c1 c2 => ?_, fun c c1 c2 => ?_, pL_cg p3 (by rw [e41]) (fun _ _ => ⟨rfl, rfl⟩), ?_, fun hm => ?_⟩
  · rw [h4, u2_af c1, h3, u2_af c1, h2, u2_af c2]
  · rw [hp.1 c c2, hc.1 c c1 c2]
  · rw [h4, u2_o (by decide), e30]
  · rw [h4, u2_s, hd (by rw [e30]; exact hm), e31, e30]
    have hb := mpk_bd (az 3) (ai 5) (fun p => dgk (al3 (a + 1 + 1)) p (Z2 (a + 1) 0).toNat) nv
    have em2 : plP (frK az ai) nv (prP l) = mpk (az 3) (ai 5) (fun p => dgk (al3 (a + 1 + 1)) p (Z2 (a + 1) 0).toNat) nv := em.symm
    exact pL_dg p3 gp hn (by omega)
