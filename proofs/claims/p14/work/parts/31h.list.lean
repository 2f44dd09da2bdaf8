/-! The class's polynomials as lists. -/
def en (x : Nat × Int64) : Int64 × Int64 := (Int64.ofNat x.1, x.2)
def pL (Z : Nat → Nat → Int) (al : Nat → Nat → Int64) (a : Nat) (l : Po) : Prop := Z a 0 = (l.length : Int) ∧ ls (fun t => (al (a + 1) t, al (a + 2) t)) l.length = l.map en
/-- good: in order, no 0, SOUND, no variable that is not there -/
def gk (nv : Nat) (l : Po) : Prop := nrm l ∧ snP l ∧ ∀ x, x ∈ l → x.1 < 256 ^ nv
theorem p256 (p : Nat) : (256 : Nat) ^ p = 2 ^ (8 * p) := by rw [Nat.pow_mul]
theorem on_bv {N : Nat} (h : N < 2 ^ 64) : (Int64.ofNat N).toBitVec.toNat = N := by
  have e : (Int64.ofNat N).toBitVec = BitVec.ofNat 64 N := rfl
  rw [e, BitVec.toNat_ofNat, Nat.mod_eq_of_lt h]
theorem pw_dgt {N : Nat} {p : Int} (h : N < 2 ^ 64) (hp : 0 ≤ p ∧ p < 8) : pw (Int64.ofNat N) p = (dgt N p.toNat : Int) := by
  have hb := pw_bd (Int64.ofNat N) p
  obtain ⟨m, rfl⟩ : ∃ m : Nat, p = (m : Int) := ⟨p.toNat, by omega⟩
  have hm : m < 8 := by omega
  rw [Int.toNat_natCast]
  generalize hq : pw (Int64.ofNat N) (m : Int) = q at hb
  obtain ⟨c, rfl⟩ : ∃ c : Nat, q = (c : Int) := ⟨q.toNat, by omega⟩
  have e : c = dgt N m := by
    apply Nat.eq_of_testBit_eq
    intro r
    have h1 := bt_w (κ := Int64.ofNat N) hm r
    rw [hq] at h1
    have h2 : (vz (c : Int)).toBitVec.getLsbD r = c.testBit r := by
      have e2 : (vz (c : Int)).toBitVec = BitVec.ofInt 32 (c : Int) := rfl
      rw [e2, BitVec.ofInt_natCast, BitVec.getLsbD_ofNat]
      by_cases q : r < 32
      · simp [q]
      · have : c.testBit r = false := Nat.testBit_lt_two_pow (Nat.lt_of_lt_of_le (show c < 2 ^ 8 by omega) (Nat.pow_le_pow_right (by decide) (by omega)))
        rw [this]
        simp
    have h3 : (Int64.ofNat N).toBitVec.getLsbD (8 * m + r) = N.testBit (8 * m + r) := by
      rw [BitVec.getLsbD, on_bv h]
    rw [h2, h3] at h1
    rw [h1]
    unfold dgt
    rw [p256, show (256 : Nat) = 2 ^ 8 from rfl, Nat.testBit_mod_two_pow, Nat.testBit_div_two_pow, Nat.add_comm]
  rw [e]
theorem dgP_snoc {l : Po} {x : Nat × Int64} {p : Nat} : dgP (l ++ [x]) p = if dgP l p < dgt x.1 p then dgt x.1 p else dgP l p := by
  unfold dgP
  rw [List.foldl_append]
  rfl
theorem gcP_snoc {l : Po} {x : Nat × Int64} : gcP (l ++ [x]) = Nat.gcd (gcP l) x.2.toInt.natAbs := by
  unfold gcP
  rw [List.foldl_append]
  rfl
theorem snoc_of {α : Type} {n : Nat} {l : List α} (h : l.length = n + 1) : ∃ l0 x, l = l0 ++ [x] ∧ l0.length = n := by
  refine ⟨l.dropLast, l.getLast (fun e => by rw [e] at h; cases h), (List.dropLast_concat_getLast _).symm, by rw [List.length_dropLast]; omega⟩
theorem ls_snoc {K F : Nat → Int64} {n : Nat} {l0 : Po} {x : Nat × Int64} (hl : l0.length = n) (h : ls (fun t => (K t, F t)) (n + 1) = (l0 ++ [x]).map en) : ls (fun t => (K t, F t)) n = l0.map en ∧ K n = Int64.ofNat x.1 ∧ F n = x.2 := by
  have h1 : ls (fun t => (K t, F t)) n ++ [(K n, F n)] = l0.map en ++ [en x] := by rw [List.map_append] at h; exact h
  have h2 := List.append_inj' h1 rfl
  have h3 : (K n, F n) = en x := List.singleton_inj.mp h2.2
  exact ⟨h2.1, congrArg Prod.fst h3, congrArg Prod.snd h3⟩
theorem dgk_P {K F : Nat → Int64} {p : Int} (hp : 0 ≤ p ∧ p < 8) : ∀ (n : Nat) (l : Po), l.length = n → ls (fun t => (K t, F t)) n = l.map en → (∀ x, x ∈ l → x.1 < 2 ^ 64) → dgk K p n = (dgP l p.toNat : Int) := by
  intro n
  induction n with
  | zero =>
    intro l hl _ _
    rw [List.eq_nil_of_length_eq_zero hl]
    rfl
  | succ n ih =>
    intro l hl h hx
    obtain ⟨l0, x, rfl, hl0⟩ := snoc_of hl
    obtain ⟨h1, h2, h3⟩ := ls_snoc hl0 h
    have h4 := ih l0 hl0 h1 fun y hy => hx y (List.mem_append_left _ hy)
    simp only [dgk]
    rw [dgP_snoc, h4, h2, pw_dgt (hx x (List.mem_append_right _ (List.mem_singleton.mpr rfl))) hp]
    split <;> rename_i q <;> split <;> omega
theorem mpL_P {fz : Nat → Int32} {od : Nat → Int} {K F : Nat → Int64} {n : Nat} {l : Po} (hl : l.length = n) (h : ls (fun t => (K t, F t)) n = l.map en) (hx : ∀ x, x ∈ l → x.1 < 2 ^ 64) : ∀ m : Nat, m ≤ 8 → mpk fz od (fun p => dgk K p n) m = mpP (fun p => decide (fz (od p).toNat ≠ 0)) l m := by
  intro m
  induction m with
  | zero => intro _; rfl
  | succ m ih =>
    intro hm
    have h1 := dgk_P (p := (m : Int)) (by omega) n l hl h hx
    rw [Int.toNat_natCast] at h1
    have e1 : (0 < dgk K (m : Int) n) ↔ 0 < dgP l m := by rw [h1]; omega
    show (if fz (od m).toNat = 0 ∧ 0 < dgk K (m : Int) n then (m : Int) else mpk fz od (fun p => dgk K p n) m) = (if decide (fz (od m).toNat ≠ 0) = false ∧ 0 < dgP l m then (m : Int) else mpP (fun p => decide (fz (od p).toNat ≠ 0)) l m)
    rw [ih (by omega)]
    by_cases q : fz (od m).toNat = 0 ∧ 0 < dgk K (m : Int) n
    · rw [if_pos q, if_pos ⟨by simp [q.1], e1.mp q.2⟩]
    · rw [if_neg q, if_neg (fun z => q ⟨by simpa using z.1, e1.mpr z.2⟩)]
theorem gck_P {K F : Nat → Int64} : ∀ (n : Nat) (l : Po), l.length = n → ls (fun t => (K t, F t)) n = l.map en → gck F n = gcP l := by
  intro n
  induction n with
  | zero =>
    intro l hl _
    rw [List.eq_nil_of_length_eq_zero hl]
    rfl
  | succ n ih =>
    intro l hl h
    obtain ⟨l0, x, rfl, hl0⟩ := snoc_of hl
    obtain ⟨h1, h2, h3⟩ := ls_snoc hl0 h
    show Nat.gcd (F n).toInt.natAbs (gck F n) = _
    rw [gcP_snoc, ih l0 hl0 h1, h3, Nat.gcd_comm]
theorem ls_head {α : Type} {g : Nat → α} : ∀ n : Nat, ls g (n + 1) = g 0 :: ls (fun t => g (t + 1)) n := by
  intro n
  induction n with
  | zero => rfl
  | succ n ih =>
    show ls g (n + 1) ++ [g (n + 1)] = _
    rw [ih]
    rfl
theorem sgk_P {K F : Nat → Int64} {n : Nat} {l : Po} (hn : 0 < n) (hl : l.length = n) (h : ls (fun t => (K t, F t)) n = l.map en) : sgk F n = sgP l := by
  have h1 := gck_P n l hl h
  obtain ⟨m, rfl⟩ : ∃ m, n = m + 1 := ⟨n - 1, by omega⟩
  cases l with
  | nil => cases hl
  | cons x l =>
    rw [ls_head] at h
    have h2 : (K 0, F 0) = en x := (List.cons.inj h).1
    have h3 : F 0 = x.2 := congrArg Prod.snd h2
    show (if (F 0).toInt < 0 then -(gck F (m + 1) : Int) else (gck F (m + 1) : Int)) = (if x.2.toInt < 0 then -(gcP (x :: l) : Int) else (gcP (x :: l) : Int))
    rw [h1, h3]
section PK
variable {Z Z1 : Nat → Nat → Int} {al al1 : Nat → Nat → Int64} {a b : Nat} {l : Po} {nv : Nat}
theorem gk_64 (h : gk nv l) (hn : nv ≤ 8) : ∀ x, x ∈ l → x.1 < 2 ^ 64 := fun x hx => Nat.lt_of_lt_of_le (h.2.2 x hx) (by rw [p256]; exact Nat.pow_le_pow_right (by decide) (by omega))
theorem pL_gl (h : pL Z al a l) (hg : gk nv l) : ∀ t : Nat, (t : Int) < Z a 0 → gl (al (a + 2) t) := fun t ht => by
  have h1 : (al (a + 1) t, al (a + 2) t) ∈ l.map en := by rw [← h.2]; exact (ls_mem _).mpr ⟨t, by have := h.1; omega, rfl⟩
  obtain ⟨x, hx, e⟩ := List.mem_map.mp h1
  have e2 : x.2 = al (a + 2) t := congrArg Prod.snd e
  rw [← e2]
  have q1 := hg.1.2 x hx
  have q2 := (hg.2.1.2 x hx).1
  exact ⟨fun z => q1 (Int64.toInt_inj.mp (by rw [z]; rfl)), q2.1, q2.2⟩
theorem pL_cg (h : pL Z al a l) (e0 : Z1 a 0 = Z a 0) (e1 : ∀ t : Nat, (t : Int) < Z a 0 → al1 (a + 1) t = al (a + 1) t ∧ al1 (a + 2) t = al (a + 2) t) : pL Z1 al1 a l := by
  refine ⟨e0.trans h.1, ?_⟩
  rw [← h.2]
  refine ls_cg _ fun t ht => ?_
  have := h.1
  rw [(e1 t (by omega)).1, (e1 t (by omega)).2]
theorem pL_cp (h : pL Z al b l) (e0 : Z1 a 0 = Z b 0) (hc : cpK al al1 a b (Z b 0)) : pL Z1 al1 a l := by
  refine ⟨e0.trans h.1, ?_⟩
  rw [← h.2]
  refine ls_cg _ fun t ht => ?_
  have := h.1
  rw [(hc.2 t (by omega)).1, (hc.2 t (by omega)).2]
theorem pL_pm (h : pL Z al a l) (hc : pmK al al1 a (Z a 0)) : pL Z al1 a (prP l) := by
  have h0 := h.1
  by_cases hn : l.length = 0
  · have e := List.eq_nil_of_length_eq_zero hn
    subst e
    exact ⟨h0, rfl⟩
  · refine ⟨by unfold prP; rw [List.length_map]; exact h0, ?_⟩
    have e1 : (prP l).length = l.length := by unfold prP; rw [List.length_map]
    have e2 := sgk_P (by omega) rfl h.2
    rw [e1]
    have e3 : (prP l).map en = (l.map en).map fun x => (x.1, x.2 / Int64.ofInt (sgP l)) := by
      unfold prP
      rw [List.map_map, List.map_map]
      rfl
    rw [e3, ← h.2, ls_map]
    refine ls_cg _ fun t ht => ?_
    rw [hc.1 (a + 1) (by omega), hc.2 t (by omega), h0, Int.toNat_natCast, e2]
theorem pL_dg (h : pL Z al a l) (hg : gk nv l) (hn : nv ≤ 8) {p : Int} (hp : 0 ≤ p ∧ p < 8) : dgk (al (a + 1)) p (Z a 0).toNat = (dgP l p.toNat : Int) := by
  rw [h.1, Int.toNat_natCast]
  exact dgk_P hp _ l rfl h.2 (gk_64 hg hn)
theorem pL_mp {fz : Nat → Int32} {od : Nat → Int} (h : pL Z al a l) (hg : gk nv l) (hn : nv ≤ 8) {m : Nat} (hm : m ≤ 8) : mpk fz od (fun p => dgk (al (a + 1)) p (Z a 0).toNat) m = mpP (fun p => decide (fz (od p).toNat ≠ 0)) l m := by
  rw [h.1, Int.toNat_natCast]
  exact mpL_P rfl h.2 (gk_64 hg hn) m hm
end PK
