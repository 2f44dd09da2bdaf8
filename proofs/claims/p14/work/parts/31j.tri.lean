/-! Rows and the triangle of the class. -/
def rwW (fr : Nat → Bool) (nv : Nat) (Z : Nat → Nat → Int) (al : Nat → Nat → Int64) (R : Nat → Po) (c : Nat) : Prop := ∀ r, r < c → (pL Z al (57 + 4 * r + 1) (R r) ∧ gk nv (R r)) ∧ Z (57 + 4 * r) 0 = plP fr nv (R r) ∧ (plP fr nv (R r) ≠ -1 → Z (57 + 4 * r) 1 = (dmP fr nv (R r) : Int))
def rwK (fr : Nat → Bool) (nv : Nat) (Z : Nat → Nat → Int) (al : Nat → Nat → Int64) (R : Nat → Po) (c : Nat) : Prop := rwW fr nv Z al R c ∧ ∀ r, r < c → plP fr nv (R r) ≠ -1
/-- B: the members, the last first -/
def mbK (Z : Nat → Nat → Int) (mm : Nat → Option Nat) (B : List Nat) (c : Nat) : Prop := Z 217 0 = (B.length : Int) ∧ B.length ≤ 8 ∧ (∀ b, b ∈ B → b < c) ∧ ∀ j, j < B.length → mm j = some (57 + 4 * B.reverse.getD j 0)
theorem u2_eq {Z Z1 : Nat → Nat → Int} {a j : Nat} {q : Int} (h : Z1 = u2 Z a j q) : Z1 a j = q := by rw [h, u2_s]
section TR
variable {fr : Nat → Bool} {nv c : Nat} {Z Z1 : Nat → Nat → Int} {al al1 : Nat → Nat → Int64} {R : Nat → Po} {B : List Nat} {mm m1 : Nat → Option Nat}
theorem gd_el {l : List Nat} {j : Nat} (h : j < l.length) : l.getD j 0 = l[j] := by rw [List.getD_eq_getElem?_getD, List.getElem?_eq_getElem h]; rfl
theorem gd_mem {j : Nat} (h : j < B.length) : B.reverse.getD j 0 ∈ B := by
  have h1 : j < B.reverse.length := by rw [List.length_reverse]; exact h
  rw [gd_el h1]
  exact List.mem_reverse.mp (List.getElem_mem h1)
theorem mb_lt (h : mbK Z mm B c) {j : Nat} (hj : (j : Int) < Z 217 0) : B.reverse.getD j 0 < c := h.2.2.1 _ (gd_mem (by have := h.1; omega))
theorem mb_q (h : mbK Z mm B c) {j : Nat} (hj : (j : Int) < Z 217 0) : mm j = some (57 + 4 * B.reverse.getD j 0) := h.2.2.2 j (by have := h.1; omega)
theorem rv_cons {b j : Nat} : (b :: B).reverse.getD j 0 = if j < B.length then B.reverse.getD j 0 else if j = B.length then b else 0 := by
  rw [List.reverse_cons]
  by_cases h : j < B.length
  · rw [if_pos h, List.getD_eq_getElem?_getD, List.getD_eq_getElem?_getD, List.getElem?_append_left (by rw [List.length_reverse]; exact h)]
  · rw [if_neg h, List.getD_eq_getElem?_getD, List.getElem?_append_right (by rw [List.length_reverse]; omega), List.length_reverse]
    by_cases e : j = B.length
    · rw [if_pos e, e, Nat.sub_self]; rfl
    · rw [if_neg e]
      obtain ⟨m, hm⟩ : ∃ m, j - B.length = m + 1 := ⟨j - B.length - 1, by omega⟩
      rw [hm]
      rfl
theorem gd_of {b : Nat} (h : b ∈ B) : ∃ j, j < B.length ∧ B.reverse.getD j 0 = b := by
  obtain ⟨j, hj, e⟩ := List.mem_iff_getElem.mp (List.mem_reverse.mpr h)
  exact ⟨j, by rw [List.length_reverse] at hj; exact hj, by rw [gd_el hj]; exact e⟩
/-- what fits -/
def ftK (Z : Nat → Nat → Int) (al : Nat → Nat → Int64) (B : List Nat) (a : Nat) : Prop := (0 < Z 217 0 → Z (57 + 4 * B.reverse.getD (Z 217 0 - 1).toNat 0) 0 < Z a 0) ∧ ∀ j : Nat, (j : Int) < Z 217 0 → dgk (al (a + 1 + 1)) (Z (57 + 4 * B.reverse.getD j 0) 0) (Z (a + 1) 0).toNat < Z (57 + 4 * B.reverse.getD j 0) 1
def ltK (Z : Nat → Nat → Int) (a b : Nat) : Prop := if Z a 0 ≠ Z b 0 then Z a 0 < Z b 0 else if Z a 1 ≠ Z b 1 then Z a 1 < Z b 1 else Z (a + 1) 0 < Z (b + 1) 0
theorem pl_bd {f : Po} : -1 ≤ plP fr nv f ∧ plP fr nv f < (nv : Int) := by
  have : ∀ n : Nat, -1 ≤ mpP fr f n ∧ mpP fr f n < (n : Int) := by
    intro n
    induction n with
    | zero => exact ⟨by show (-1 : Int) ≤ -1; decide, by show (-1 : Int) < 0; decide⟩
    | succ n ih =>
      show _ ≤ (if _ then _ else _) ∧ (if _ then _ else _) < _
      split <;> omega
  exact this nv
theorem rw_dg (h : rwK fr nv Z al R c) (hn : nv ≤ 8) {r b : Nat} (hr : r < c) (hb : b < c) : dgk (al (57 + 4 * r + 1 + 1)) (Z (57 + 4 * b) 0) (Z (57 + 4 * r + 1) 0).toNat = (dgP (R r) (plP fr nv (R b)).toNat : Int) := by
  have h1 := h.1 r hr
  have h2 := h.1 b hb
  have h3 := pl_bd (fr := fr) (nv := nv) (f := R b)
  have h4 := h.2 b hb
  rw [h2.2.1]
  exact pL_dg h1.1.1 h1.1.2 hn (by omega)
theorem lt_iff (h : rwK fr nv Z al R c) {r b : Nat} (hr : r < c) (hb : b < c) : ltK Z (57 + 4 * r) (57 + 4 * b) ↔ ltP fr nv (R r) (R b) = true := by
  have h1 := h.1 r hr
  have h2 := h.1 b hb
  unfold ltK ltP
  rw [h1.2.1, h2.2.1, h1.2.2 (h.2 r hr), h2.2.2 (h.2 b hb), h1.1.1.1, h2.1.1.1]
  split
  · rw [decide_eq_true_iff]
  · split <;> split <;> rw [decide_eq_true_iff] <;> omega
theorem ft_iff (h : rwK fr nv Z al R c) (hm : mbK Z mm B c) (hn : nv ≤ 8) {r : Nat} (hr : r < c) : ftK Z al B (57 + 4 * r) ↔ ftP fr nv R B r = true := by
  have h0 := hm.1
  unfold ftK ftP
  rw [Bool.and_eq_true, List.all_eq_true]
  have e2 : (∀ j : Nat, (j : Int) < Z 217 0 → dgk (al (57 + 4 * r + 1 + 1)) (Z (57 + 4 * B.reverse.getD j 0) 0) (Z (57 + 4 * r + 1) 0).toNat < Z (57 + 4 * B.reverse.getD j 0) 1) ↔ ∀ b, b ∈ B → decide (dgP (R r) (plP fr nv (R b)).toNat < dmP fr nv (R b)) = true := by
    constructor
    · intro q b hb
      obtain ⟨j, hj, e⟩ := gd_of hb
      have q1 := q j (by omega)
      have hb2 := hm.2.2.1 b hb
      rw [e, rw_dg h hn hr hb2, (h.1 b hb2).2.2 (h.2 b hb2)] at q1
      rw [decide_eq_true_iff]
      omega
    · intro q j hj
      have hb2 := mb_lt hm hj
      have q1 := q _ (gd_mem (B := B) (j := j) (by omega))
      rw [decide_eq_true_iff] at q1
      rw [rw_dg h hn hr hb2, (h.1 _ hb2).2.2 (h.2 _ hb2)]
      omega
  rw [e2]
  refine and_congr_left fun _ => ?_
  cases B with
  | nil =>
    refine ⟨fun _ => rfl, fun _ q => ?_⟩
    rw [h0] at q
    exact absurd q (by decide)
  | cons b B =>
    have e : (Z 217 0 - 1).toNat = B.length := by rw [h0, List.length_cons]; omega
    have hb2 := hm.2.2.1 b (List.mem_cons_self ..)
    have e3 : (b :: B).reverse.getD B.length 0 = b := by rw [rv_cons, if_neg (by omega), if_pos rfl]
    rw [e, e3, (h.1 b hb2).2.1, (h.1 r hr).2.1]
    show _ ↔ decide (plP fr nv (R b) < plP fr nv (R r)) = true
    rw [decide_eq_true_iff]
    refine ⟨fun q => q (by rw [h0, List.length_cons]; omega), fun q _ => q⟩
/-- the least that fits, among those before x -/
def lsI (fr : Nat → Bool) (nv : Nat) (R : Nat → Po) (B : List Nat) (c x : Nat) (z : Option Nat) : Prop := match z with
  | none => lsP fr nv R B x = none
  | some z => ∃ b, b < c ∧ z = 57 + 4 * b ∧ lsP fr nv R B x = some b
theorem lsP_s {x : Nat} : lsP fr nv R B (x + 1) = if ftP fr nv R B x = true then (match lsP fr nv R B x with
      | none => some x
      | some b => if ltP fr nv (R x) (R b) = true then some x else some b) else lsP fr nv R B x := rfl
theorem ls_a {x : Int} {q : Int} {z : Option Nat} (h : rwK fr nv Z al R c) (hm : mbK Z mm B c) (hn : nv ≤ 8) (h0 : 0 ≤ x ∧ x < (c : Int)) (hi : lsI fr nv R B c x.toNat z) (e : q = 1 ↔ ftK Z al B (57 + 4 * x.toNat)) (hq : q = 0) : lsI fr nv R B c (x + 1).toNat z := by
  have e1 : (x + 1).toNat = x.toNat + 1 := by omega
  have e2 : ¬ ftP fr nv R B x.toNat = true := fun z => by
    have := e.mpr ((ft_iff h hm hn (by omega)).mpr z)
    omega
  rw [e1]
  unfold lsI
  rw [lsP_s, if_neg e2]
  exact hi
theorem ls_b {x : Int} {q : Int} (h : rwK fr nv Z al R c) (hm : mbK Z mm B c) (hn : nv ≤ 8) (h0 : 0 ≤ x ∧ x < (c : Int)) (hi : lsI fr nv R B c x.toNat none) (e : q = 1 ↔ ftK Z al B (57 + 4 * x.toNat)) (hq : q = 1) : lsI fr nv R B c (x + 1).toNat (some (57 + 4 * x.toNat)) := by
  have e1 : (x + 1).toNat = x.toNat + 1 := by omega
  have e2 : ftP fr nv R B x.toNat = true := (ft_iff h hm hn (by omega)).mp (e.mp hq)
  have hi : lsP fr nv R B x.toNat = none := hi
  rw [e1]
  refine ⟨x.toNat, by omega, rfl, ?_⟩
  rw [lsP_s, if_pos e2, hi]
theorem ls_c {x : Int} {q p : Int} {z : Nat} (h : rwK fr nv Z al R c) (hm : mbK Z mm B c) (hn : nv ≤ 8) (h0 : 0 ≤ x ∧ x < (c : Int)) (hi : lsI fr nv R B c x.toNat (some z)) (e : q = 1 ↔ ftK Z al B (57 + 4 * x.toNat)) (hq : q = 1) (e3 : p = 1 ↔ ltK Z (57 + 4 * x.toNat) z) (hp : p = 1) : lsI fr nv R B c (x + 1).toNat (some (57 + 4 * x.toNat)) := by
  have e1 : (x + 1).toNat = x.toNat + 1 := by omega
  have e2 : ftP fr nv R B x.toNat = true := (ft_iff h hm hn (by omega)).mp (e.mp hq)
  obtain ⟨b, hb, hz, hl⟩ := hi
  have e4 : ltP fr nv (R x.toNat) (R b) = true := (lt_iff h (by omega) hb).mp (hz ▸ e3.mp hp)
  rw [e1]
  refine ⟨x.toNat, by omega, rfl, ?_⟩
  rw [lsP_s, if_pos e2, hl]
  show (if ltP fr nv (R x.toNat) (R b) = true then some x.toNat else some b) = _
  rw [if_pos e4]
theorem ls_d {x : Int} {q p : Int} {z : Nat} (h : rwK fr nv Z al R c) (hm : mbK Z mm B c) (hn : nv ≤ 8) (h0 : 0 ≤ x ∧ x < (c : Int)) (hi : lsI fr nv R B c x.toNat (some z)) (e : q = 1 ↔ ftK Z al B (57 + 4 * x.toNat)) (hq : q = 1) (e3 : p = 1 ↔ ltK Z (57 + 4 * x.toNat) z) (hp : p = 0) : lsI fr nv R B c (x + 1).toNat (some z) := by
  have e1 : (x + 1).toNat = x.toNat + 1 := by omega
  have e2 : ftP fr nv R B x.toNat = true := (ft_iff h hm hn (by omega)).mp (e.mp hq)
  obtain ⟨b, hb, hz, hl⟩ := hi
  have e4 : ¬ ltP fr nv (R x.toNat) (R b) = true := fun q => by
    have := e3.mpr (hz ▸ (lt_iff h (by omega) hb).mpr q)
    omega
  rw [e1]
  refine ⟨b, hb, hz, ?_⟩
  rw [lsP_s, if_pos e2, hl]
  show (if ltP fr nv (R x.toNat) (R b) = true then some x.toNat else some b) = _
  rw [if_neg e4]
/-- taking the base -/
def tbbI (fr : Nat → Bool) (nv : Nat) (R : Nat → Po) (c : Nat) (Z Z1 : Nat → Nat → Int) (m1 : Nat → Option Nat) : Prop := ∃ B, mbK Z1 m1 B c ∧ bsP fr nv R c 8 [] = bsP fr nv R c (8 - B.length) B ∧ Z1 = u2 Z 217 0 (B.length : Int)
theorem rwK_u (h : rwK fr nv Z al R c) (hc : c ≤ 40) {q : Int} (e : Z1 = u2 Z 217 0 q) : rwK fr nv Z1 al R c := by
  refine ⟨fun r hr => ?_, h.2⟩
  obtain ⟨⟨h1, h2⟩, h3, h4⟩ := h.1 r hr
  have e1 : Z1 (57 + 4 * r) = Z (57 + 4 * r) := by rw [e, u2_af (by omega)]
  have e2 : Z1 (57 + 4 * r + 1) = Z (57 + 4 * r + 1) := by rw [e, u2_af (by omega)]
  exact ⟨⟨pL_cg h1 (by rw [e2]) (fun _ _ => ⟨rfl, rfl⟩), h2⟩, by rw [e1]; exact h3, fun q => by rw [e1]; exact h4 q⟩
theorem tbb_0 (e : Z1 = u2 Z 217 0 0) : tbbI fr nv R c Z Z1 mm := ⟨[], ⟨by rw [e, u2_s]; rfl, by decide, (fun b hb => by cases hb), (fun j hj => by cases hj)⟩, rfl, e⟩
theorem tbb_s {b : Nat} {m2 : Nat → Option Nat} {Z2 : Nat → Nat → Int} (hB : mbK Z1 m1 B c) (hb : bsP fr nv R c 8 [] = bsP fr nv R c (8 - B.length) B) (e : Z1 = u2 Z 217 0 (B.length : Int)) (hl : lsP fr nv R B c = some b) (hbc : b < c) (h8 : Z1 217 0 < 8) (em : m2 = va_up m1 (Z1 217 0).toNat (some (57 + 4 * b))) (ez : Z2 = u2 Z1 217 0 (Z1 217 0 + 1)) : tbbI fr nv R c Z Z2 m2 := by
  have h0 := hB.1
  have e1 : (Z1 217 0).toNat = B.length := by omega
  refine ⟨b :: B, ⟨?_, ?_, ?_, ?_⟩, ?_, ?_⟩
  · rw [ez, u2_s, h0, List.length_cons]; omega
  · rw [List.length_cons]; omega
  · intro d hd
    rcases List.mem_cons.mp hd with e | e
    · rw [e]; exact hbc
    · exact hB.2.2.1 d e
  · intro j hj
    rw [em, e1, rv_cons]
    unfold va_up
    by_cases q : j = B.length
    · rw [if_pos q, if_neg (by omega), if_pos q]
    · rw [List.length_cons] at hj
      rw [if_neg q, if_pos (by omega)]
      exact hB.2.2.2 j (by omega)
  · rw [hb]
    obtain ⟨k, hk⟩ : ∃ k, 8 - B.length = k + 1 := ⟨7 - B.length, by omega⟩
    rw [hk, show 8 - (b :: B).length = k by rw [List.length_cons]; omega]
    show (match lsP fr nv R B c with
      | none => B
      | some r => bsP fr nv R c k (r :: B)) = _
    rw [hl]
  · rw [ez, h0, e]
    funext a j
    rw [List.length_cons]
    unfold u2
    split <;> rfl
theorem tbb_e (hl : lsP fr nv R B c = none ∨ 8 ≤ B.length) (hb : bsP fr nv R c 8 [] = bsP fr nv R c (8 - B.length) B) : bsP fr nv R c 8 [] = B := by
  rw [hb]
  cases h : 8 - B.length with
  | zero => rfl
  | succ k =>
    rcases hl with hl | hl
    · show (match lsP fr nv R B c with
        | none => B
        | some r => bsP fr nv R c k (r :: B)) = _
      rw [hl]
    · omega
/-- the last member from i down by which a step is due -/
def duK (Z : Nat → Nat → Int) (al : Nat → Nat → Int64) (B : List Nat) (a : Nat) (i q : Int) : Prop := ((Z a 0 = 0 ∨ Z 217 0 ≤ i) ∧ q = -1) ∨ ((Z a 0 ≠ 0 ∧ i < Z 217 0 ∧ -1 ≤ q ∧ q ≤ i) ∧ (∀ j : Nat, q < (j : Int) → (j : Int) ≤ i → dgk (al (a + 1)) (Z (57 + 4 * B.reverse.getD j 0) 0) (Z a 0).toNat < Z (57 + 4 * B.reverse.getD j 0) 1) ∧ (0 ≤ q → Z (57 + 4 * B.reverse.getD q.toNat 0) 1 ≤ dgk (al (a + 1)) (Z (57 + 4 * B.reverse.getD q.toNat 0) 0) (Z a 0).toNat))
end TR
theorem ls_fin {fr : Nat → Bool} {nv : Nat} {R : Nat → Po} {B : List Nat} {c z : Nat} (h : lsI fr nv R B c c (some z)) : ∃ b, b < c ∧ lsP fr nv R B c = some b ∧ some (Value.ref z) = some (.ref (57 + 4 * b)) := by
  obtain ⟨b, h1, h2, h3⟩ := h
  exact ⟨b, h1, h3, by rw [h2]⟩
theorem duK_bd {Z : Nat → Nat → Int} {al : Nat → Nat → Int64} {B : List Nat} {a : Nat} {i q : Int} (h : duK Z al B a i q) (hi : -1 ≤ i) : -1 ≤ q ∧ q ≤ i ∧ (q = -1 ∨ (Z a 0 ≠ 0 ∧ q < Z 217 0)) := by
  rcases h with ⟨h1, h2⟩ | ⟨h1, h2, h3⟩ <;> omega
theorem ty_a2x : ∀ a, a < 238 → ty a = 3 → a ≠ 2 ∧ a + 1 ≠ 2 := by decide +kernel
theorem ty_a2 {a : Nat} (h : ty a = 3) : a ≠ 2 ∧ a + 1 ≠ 2 := ty_a2x a (ty_lo (by rw [h]; decide)) h
