/-! Rows and the base of the reference. -/
def rwQ (V : Nat → Nat) (nv : Nat) (ai : Nat → Nat → Int) (al : Nat → Nat → Int64) (R : Nat → Po) (c : Nat) : Prop := ∀ r, r < c → qL V nv ai al (16 + r) (R r) ∧ gk nv (R r)
def mbQ (sc : Nat → Int) (ai : Nat → Nat → Int) (B : List Nat) (c : Nat) : Prop := (sc 40 = (B.length : Int) ∧ B.length ≤ 8) ∧ (∀ b, b ∈ B → b < c) ∧ ∀ j, j < B.length → ai 261 j = 16 + ((B.reverse.getD j 0 : Nat) : Int)
def ftH (fr : Nat → Bool) (nv : Nat) (R : Nat → Po) (B : List Nat) (r x : Nat) : Prop := (B ≠ [] → plP fr nv (R (B.reverse.getD (B.length - 1) 0)) < plP fr nv (R r)) ∧ ∀ j, j < x → dgP (R r) (plP fr nv (R (B.reverse.getD j 0))).toNat < dmP fr nv (R (B.reverse.getD j 0))
def inB (fr : Nat → Bool) (nv : Nat) (R : Nat → Po) (B : List Nat) : Prop := match B with
  | [] => True
  | b :: B => ((b :: B).length : Int) ≤ plP fr nv (R b) + 1
def lsQ (fr : Nat → Bool) (nv : Nat) (R : Nat → Po) (B : List Nat) (x : Nat) (z : Int) : Prop := (z < 0 ∧ lsP fr nv R B x = none) ∨ ∃ b : Nat, z = 16 + (b : Int) ∧ lsP fr nv R B x = some b
section RB
variable {fr : Nat → Bool} {V : Nat → Nat} {nv c r b : Nat} {R : Nat → Po} {B : List Nat} {sc sc1 sc2 : Nat → Int} {ai ai1 ai2 : Nat → Nat → Int} {al al1 al2 al3 : Nat → Nat → Int64} {az : Nat → Nat → Int32} {f g l : Po}
theorem lt_q {q p1 p2 d1 d2 n1 n2 : Int} (e1 : p1 = plP fr nv f) (e2 : p2 = plP fr nv g) (h : (p1 ≠ p2 ∧ (q = 1 ↔ p1 < p2)) ∨ (p1 = p2 ∧ (d1 = (dmP fr nv f : Int) ∧ d2 = (dmP fr nv g : Int)) ∧ ((d1 ≠ d2 ∧ (q = 1 ↔ d1 < d2)) ∨ (d1 = d2 ∧ (n1 = (f.length : Int) ∧ n2 = (g.length : Int)) ∧ (q = 1 ↔ n1 < n2))))) : q = 1 ↔ ltP fr nv f g = true := by
  unfold ltP
  rw [← e1, ← e2]
  rcases h with ⟨h1, h2⟩ | ⟨h1, ⟨h2, h3⟩, h4⟩
  · rw [if_pos h1, decide_eq_true_iff]; exact h2
  · rw [if_neg (fun z => z h1)]
    rcases h4 with ⟨h5, h6⟩ | ⟨h5, ⟨h6, h7⟩, h8⟩
    · rw [if_pos (by omega), decide_eq_true_iff]; omega
    · rw [if_neg (by omega), decide_eq_true_iff]; omega
theorem fth_0 {q : Int} (h1 : B.length = 0 → q = 1) (h2 : B.length ≠ 0 → (q = 1 ↔ plP fr nv (R (B.reverse.getD (B.length - 1) 0)) < plP fr nv (R r))) : q = 1 ↔ ftH fr nv R B r 0 := by
  by_cases e : B.length = 0
  · have eB : B = [] := List.eq_nil_of_length_eq_zero e
    exact ⟨fun _ => ⟨fun z => absurd eB z, fun j hj => by omega⟩, fun _ => h1 e⟩
  · rw [h2 e]
    exact ⟨fun z => ⟨fun _ => z, fun j hj => by omega⟩, fun z => z.1 (fun y => e (by rw [y]; rfl))⟩
theorem fth_s {q x : Int} (h : ftH fr nv R B r x.toNat) (hx : 0 ≤ x) (hq : q = 1 ↔ dgP (R r) (plP fr nv (R (B.reverse.getD x.toNat 0))).toNat < dmP fr nv (R (B.reverse.getD x.toNat 0))) : q = 1 ↔ ftH fr nv R B r (x + 1).toNat := by
  rw [show (x + 1).toNat = x.toNat + 1 by omega, hq]
  constructor
  · intro z
    refine ⟨h.1, fun j hj => ?_⟩
    by_cases e : j = x.toNat
    · rw [e]; exact z
    · exact h.2 j (by omega)
  · intro z
    exact z.2 x.toNat (by omega)
theorem fth_e : ftH fr nv R B r B.length ↔ ftP fr nv R B r = true := by
  unfold ftH ftP
  rw [Bool.and_eq_true, List.all_eq_true]
  have e2 : (∀ j, j < B.length → dgP (R r) (plP fr nv (R (B.reverse.getD j 0))).toNat < dmP fr nv (R (B.reverse.getD j 0))) ↔ ∀ b, b ∈ B → decide (dgP (R r) (plP fr nv (R b)).toNat < dmP fr nv (R b)) = true := by
    constructor
    · intro q b hb
      obtain ⟨j, hj, e⟩ := gd_of hb
      rw [decide_eq_true_iff, ← e]
      exact q j hj
    · intro q j hj
      have h9 := q _ (gd_mem hj)
      rw [decide_eq_true_iff] at h9
      exact h9
  rw [e2]
  refine and_congr_left fun _ => ?_
  cases B with
  | nil => exact ⟨fun _ => rfl, fun _ z => absurd rfl z⟩
  | cons b B =>
    have e3 : (b :: B).reverse.getD ((b :: B).length - 1) 0 = b := by rw [List.length_cons, Nat.add_sub_cancel, rv_cons, if_neg (by omega), if_pos rfl]
    rw [e3]
    show _ ↔ decide (plP fr nv (R b) < plP fr nv (R r)) = true
    rw [decide_eq_true_iff]
    exact ⟨fun q => q (List.cons_ne_nil _ _), fun q _ => q⟩
theorem fth_r {q : Int} {x : Nat} (h : q = 1 ↔ ftH fr nv R B r x) (hx : x ≤ B.length) (hc : x = B.length ∨ q ≠ 1) : q = 1 ↔ ftP fr nv R B r = true := by
  rw [← fth_e]
  rcases hc with e | e
  · rw [← e]; exact h
  · exact ⟨fun z => absurd z e, fun z => absurd (h.mpr ⟨z.1, fun j hj => z.2 j (by omega)⟩) e⟩
theorem mq_b {x : Int} (hm : mbQ sc ai B c) (hx : 0 ≤ x ∧ x < sc 40) : ai 261 x.toNat = 16 + ((B.reverse.getD x.toNat 0 : Nat) : Int) ∧ B.reverse.getD x.toNat 0 < c := by
  have h1 := hm.1.1
  exact ⟨hm.2.2 _ (by omega), hm.2.1 _ (gd_mem (by omega))⟩
theorem mq_l (hm : mbQ sc ai B c) (hx : sc 40 ≠ 0) : ai 261 (sc 40 - 1).toNat = 16 + ((B.reverse.getD (B.length - 1) 0 : Nat) : Int) ∧ B.reverse.getD (B.length - 1) 0 < c := by
  have h1 := hm.1.1
  have h2 := mq_b hm (x := sc 40 - 1) (by omega)
  rw [show (sc 40 - 1).toNat = B.length - 1 by omega] at h2 ⊢
  exact h2
theorem lsP_ft : ∀ x : Nat, lsP fr nv R B x = some b → b < x ∧ ftP fr nv R B b = true := by
  intro x
  induction x with
  | zero => intro h; cases h
  | succ x ih =>
    intro h
    rw [lsP_s] at h
    by_cases q : ftP fr nv R B x = true
    · rw [if_pos q] at h
      cases h2 : lsP fr nv R B x with
      | none =>
        rw [h2] at h
        have h : some x = some b := h
        cases h
        exact ⟨by omega, q⟩
      | some d =>
        rw [h2] at h
        have h : (if ltP fr nv (R x) (R d) = true then some x else some d) = some b := h
        by_cases q2 : ltP fr nv (R x) (R d) = true
        · rw [if_pos q2] at h
          cases h
          exact ⟨by omega, q⟩
        · rw [if_neg q2] at h
          cases h
          have := ih h2
          exact ⟨by omega, this.2⟩
    · rw [if_neg q] at h
      have := ih h
      exact ⟨by omega, this.2⟩
theorem inB_s (h : inB fr nv R B) (hf : ftP fr nv R B b = true) (hn : plP fr nv (R b) ≠ -1) : inB fr nv R (b :: B) := by
  show ((b :: B).length : Int) ≤ plP fr nv (R b) + 1
  have hb := pl_bd (fr := fr) (nv := nv) (f := R b)
  cases B with
  | nil => show (1 : Int) ≤ _; omega
  | cons a B =>
    unfold ftP at hf
    rw [Bool.and_eq_true] at hf
    have h1 : decide (plP fr nv (R a) < plP fr nv (R b)) = true := hf.1
    rw [decide_eq_true_iff] at h1
    have h2 : ((a :: B).length : Int) ≤ plP fr nv (R a) + 1 := h
    rw [List.length_cons]
    omega
theorem inB_8 (h : inB fr nv R B) (hf : ftP fr nv R B b = true) (hn : plP fr nv (R b) ≠ -1) (h8 : nv ≤ 8) : B.length < 8 := by
  have h1 : ((b :: B).length : Int) ≤ plP fr nv (R b) + 1 := inB_s h hf hn
  have hb := pl_bd (fr := fr) (nv := nv) (f := R b)
  rw [List.length_cons] at h1
  omega
theorem lq_a {x q z : Int} (hi : lsQ fr nv R B x.toNat z) (h0 : 0 ≤ x) (e : q = 1 ↔ ftP fr nv R B x.toNat = true) (hq : q = 0) : lsQ fr nv R B (x + 1).toNat z := by
  have e2 : ¬ ftP fr nv R B x.toNat = true := fun y => by
    have := e.mpr y
    omega
  unfold lsQ
  rw [show (x + 1).toNat = x.toNat + 1 by omega, lsP_s, if_neg e2]
  exact hi
theorem lq_b {x q z : Int} (hi : lsQ fr nv R B x.toNat z) (h0 : 0 ≤ x) (e : q = 1 ↔ ftP fr nv R B x.toNat = true) (hq : q = 1) (hz : z < 0) : lsQ fr nv R B (x + 1).toNat (16 + x) := by
  have h1 : lsP fr nv R B x.toNat = none := by
    rcases hi with h | ⟨b, h, _⟩
    · exact h.2
    · omega
  refine Or.inr ⟨x.toNat, by omega, ?_⟩
  rw [show (x + 1).toNat = x.toNat + 1 by omega, lsP_s, if_pos (e.mp hq), h1]
theorem lq_c {x q p : Int} (hi : lsP fr nv R B x.toNat = some b) (h0 : 0 ≤ x) (e : q = 1 ↔ ftP fr nv R B x.toNat = true) (hq : q = 1) (e3 : p = 1 ↔ ltP fr nv (R x.toNat) (R b) = true) (hp : p = 1) : lsQ fr nv R B (x + 1).toNat (16 + x) := by
  refine Or.inr ⟨x.toNat, by omega, ?_⟩
  rw [show (x + 1).toNat = x.toNat + 1 by omega, lsP_s, if_pos (e.mp hq), hi]
  show (if ltP fr nv (R x.toNat) (R b) = true then some x.toNat else some b) = _
  rw [if_pos (e3.mp hp)]
theorem lq_d {x q p z : Int} (hi : lsP fr nv R B x.toNat = some b) (hz : z = 16 + (b : Int)) (h0 : 0 ≤ x) (e : q = 1 ↔ ftP fr nv R B x.toNat = true) (hq : q = 1) (e3 : p = 1 ↔ ltP fr nv (R x.toNat) (R b) = true) (hp : p = 0) : lsQ fr nv R B (x + 1).toNat z := by
  refine Or.inr ⟨b, hz, ?_⟩
  rw [show (x + 1).toNat = x.toNat + 1 by omega, lsP_s, if_pos (e.mp hq), hi]
  show (if ltP fr nv (R x.toNat) (R b) = true then some x.toNat else some b) = _
  rw [if_neg (fun y => by have := e3.mpr y; omega)]
/-- finding the base -/
def fbI (fr : Nat → Bool) (nv : Nat) (R : Nat → Po) (c : Nat) (sc sc1 : Nat → Int) (ai ai1 : Nat → Nat → Int) (B : List Nat) : Prop := mbQ sc1 ai1 B c ∧ (bsP fr nv R c 8 [] = bsP fr nv R c (8 - B.length) B ∧ inB fr nv R B) ∧ sc1 = u1 sc 40 (B.length : Int) ∧ ∀ a, a ≠ 261 → ai1 a = ai a
theorem fb_0 (e : sc1 = u1 sc 40 0) : fbI fr nv R c sc sc1 ai ai [] := ⟨⟨⟨by rw [e, u1_s]; rfl, by decide⟩, fun b hb => (by cases hb), fun j hj => (by cases hj)⟩, ⟨rfl, trivial⟩, e, fun _ _ => rfl⟩
theorem fb_s (h : fbI fr nv R c sc sc1 ai ai1 B) (hl : lsP fr nv R B c = some b) (hn : plP fr nv (R b) ≠ -1) (h8 : nv ≤ 8) {v z : Int} {m : Nat} (hm : m = (sc1 40).toNat) (hv : v = 16 + (b : Int)) (ea : ai2 = u2 ai1 261 m v) (hz : z = sc1 40 + 1) (es : sc2 = u1 sc1 40 z) : fbI fr nv R c sc sc2 ai ai2 (b :: B) := by
  obtain ⟨⟨⟨h1, h2⟩, h3, h4⟩, ⟨h5, h6⟩, h7, h9⟩ := h
  have hf := lsP_ft _ hl
  have hB := inB_8 h6 hf.2 hn h8
  subst hm hv hz
  refine ⟨⟨⟨?_, ?_⟩, ?_, ?_⟩, ⟨?_, inB_s h6 hf.2 hn⟩, ?_, ?_⟩
  · rw [es, u1_s, h1, List.length_cons]; omega
  · rw [List.length_cons]; omega
  · intro d hd
    rcases List.mem_cons.mp hd with e | e
    · rw [e]; exact hf.1
    · exact h3 d e
  · intro j hj
    rw [ea, show (sc1 40).toNat = B.length by omega, rv_cons]
    by_cases q : j = B.length
    · rw [q, u2_s, if_neg (by omega), if_pos rfl]
    · rw [List.length_cons] at hj
      rw [u2_o q, if_pos (by omega)]
      exact h4 j (by omega)
  · rw [h5]
    obtain ⟨k, hk⟩ : ∃ k, 8 - B.length = k + 1 := ⟨7 - B.length, by omega⟩
    rw [hk, show 8 - (b :: B).length = k by rw [List.length_cons]; omega]
    show (match lsP fr nv R B c with
      | none => B
      | some r => bsP fr nv R c k (r :: B)) = _
    rw [hl]
  · rw [es, h1, h7]
    funext j
    rw [List.length_cons]
    unfold u1
    split <;> rfl
  · intro a ha
    rw [ea, u2_af ha]
    exact h9 a ha
def fbO (fr : Nat → Bool) (nv : Nat) (R : Nat → Po) (c : Nat) (sc sc1 : Nat → Int) (ai ai1 : Nat → Nat → Int) : Prop := mbQ sc1 ai1 (bsP fr nv R c 8 []) c ∧ sc1 = u1 sc 40 ((bsP fr nv R c 8 []).length : Int) ∧ ∀ a, a ≠ 261 → ai1 a = ai a
theorem fb_e (h : fbI fr nv R c sc sc1 ai ai1 B) (hl : lsP fr nv R B c = none) : fbO fr nv R c sc sc1 ai ai1 := by
  obtain ⟨h1, ⟨h2, _⟩, h3, h4⟩ := h
  have e := tbb_e (Or.inl hl) h2
  unfold fbO
  rw [e]
  exact ⟨h1, h3, h4⟩
theorem fb_rw (h : fbI fr nv R c sc sc1 ai ai1 B) (hR : rwQ V nv ai al R c) : rwQ V nv ai1 al R c := fun r hr => by
  have h1 := hR r hr
  exact ⟨qL_cg h1.1 (by rw [h.2.2.2 242 (by decide)]) fun _ _ => ⟨rfl, rfl⟩, h1.2⟩
theorem fb_vR (h : ∀ a, a ≠ 261 → ai1 a = ai a) : vR ai1 = vR ai := by unfold vR; rw [h 240 (by decide)]
theorem fb_fr (h : ∀ a, a ≠ 261 → ai1 a = ai a) : frR az ai1 = frR az ai := by unfold frR; rw [h 240 (by decide)]
theorem fb_c {z : Int} {x : Nat} (hl : lsQ fr nv R B x z) (h0 : 0 ≤ z) : ∃ b : Nat, z = 16 + (b : Int) ∧ lsP fr nv R B x = some b := by
  rcases hl with h | h
  · omega
  · exact h
theorem fb_n {z : Int} {x : Nat} (hl : lsQ fr nv R B x z) (h0 : z < 0) : lsP fr nv R B x = none := by
  rcases hl with h | ⟨b, h, _⟩
  · exact h.2
  · omega
/-- is it in the base -/
def ibI (B : List Nat) (r : Nat) (x : Int) : Prop := ∃ j : Nat, (j : Int) < x ∧ B.reverse.getD j 0 = r
theorem ib_n {q x : Int} (h : q = 1 ↔ ibI B r x) (h0 : 0 ≤ x) (hx : B.reverse.getD x.toNat 0 ≠ r) : q = 1 ↔ ibI B r (x + 1) := by
  rw [h]
  constructor
  · rintro ⟨j, h1, h2⟩
    exact ⟨j, by omega, h2⟩
  · rintro ⟨j, h1, h2⟩
    refine ⟨j, ?_, h2⟩
    by_cases e : j = x.toNat
    · rw [e] at h2
      exact absurd h2 hx
    · omega
theorem ib_e {q x : Int} (h : q = 1 ↔ ibI B r x) (hx : x = (B.length : Int)) : q = 1 ↔ r ∈ B := by
  rw [h]
  constructor
  · rintro ⟨j, h1, h2⟩
    rw [← h2]
    exact gd_mem (by omega)
  · intro hr
    obtain ⟨j, h1, h2⟩ := gd_of hr
    exact ⟨j, by omega, h2⟩
/-- is it a row -/
def irI (R : Nat → Po) (g : Po) (x : Int) : Prop := ∃ j : Nat, (j : Int) < x ∧ R j = g
theorem ir_s {q p x : Int} (h : q = 1 ↔ irI R g x) (h0 : 0 ≤ x) (hq : q = 0) (hp : p = 1 ↔ R x.toNat = g) : p = 1 ↔ irI R g (x + 1) := by
  rw [hp]
  constructor
  · intro e
    exact ⟨x.toNat, by omega, e⟩
  · rintro ⟨j, h1, h2⟩
    by_cases e : j = x.toNat
    · rw [← e]; exact h2
    · have := h.mpr ⟨j, by omega, h2⟩
      omega
theorem ir_e {q x : Int} (h : q = 1 ↔ irI R g x) (hx : x ≤ (c : Int)) (hc : x = (c : Int) ∨ q = 1) : q = 1 ↔ ∃ j, j < c ∧ R j = g := by
  constructor
  · intro e
    obtain ⟨j, h1, h2⟩ := h.mp e
    exact ⟨j, by omega, h2⟩
  · rintro ⟨j, h1, h2⟩
    rcases hc with e | e
    · exact h.mpr ⟨j, by omega, h2⟩
    · exact e
def irP (R : Nat → Po) (g : Po) (c : Nat) (q : Int) : Prop := q = 1 ↔ ∃ j, j < c ∧ R j = g
theorem ir_y {q : Int} (h : irP R g c q) (h1 : q = 1) : ∃ j, j < c ∧ R j = g := h.mp h1
theorem ir_n {q : Int} (h : irP R g c q) (h1 : q = 0) : ¬ ∃ j, j < c ∧ R j = g := fun z => by
  have h2 : q = 1 := h.mpr z
  omega
/-- copying -/
def cpI (al al1 : Nat → Nat → Int64) (i j : Nat) (x : Int) : Prop := (∀ a, a ≠ 243 → a ≠ 244 → al1 a = al a) ∧ (∀ t : Nat, (t : Int) < x → al1 243 (60 * j + t) = al 243 (60 * i + t) ∧ al1 244 (60 * j + t) = al 244 (60 * i + t)) ∧ ∀ a k, k < 60 * j ∨ 60 * j + x.toNat ≤ k → al1 a k = al a k
theorem cpI_0 {i j : Nat} : cpI al al i j 0 := ⟨fun _ _ _ => rfl, fun t h => by omega, fun _ _ _ => rfl⟩
theorem cpI_s {i j m n : Nat} {x : Int} (h : cpI al al1 i j x) (h0 : 0 ≤ x ∧ x < 60) (hij : i ≠ j) (hm : m = 60 * j + x.toNat) (hn : n = 60 * i + x.toNat) (e1 : al2 = u2 al1 243 m (al1 243 n)) (e2 : al3 = u2 al2 244 m (al2 244 n)) : cpI al al3 i j (x + 1) := by
  subst hm hn
  refine ⟨fun a a1 a2 => by rw [e2, u2_af a2, e1, u2_af a1]; exact h.1 a a1 a2, fun t ht => ?_, fun a k hk => ?_⟩
  · by_cases e : t = x.toNat
    · rw [e]
      constructor
      · rw [e2, u2_af (by decide), e1, u2_s]
        exact h.2.2 243 _ (by omega)
      · rw [e2, u2_s, e1, u2_af (by decide)]
        exact h.2.2 244 _ (by omega)
    · have h1 := h.2.1 t (by omega)
      constructor
      · rw [e2, u2_af (by decide), e1, u2_o (by omega)]; exact h1.1
      · rw [e2, u2_o (by omega), e1, u2_af (by decide)]; exact h1.2
  · rw [← h.2.2 a k (by omega), e2]
    unfold u2
    rw [if_neg (by omega), e1]
    unfold u2
    rw [if_neg (by omega)]
def cpQ (V : Nat → Nat) (nv : Nat) (ai ai1 : Nat → Nat → Int) (al al1 : Nat → Nat → Int64) (i : Nat) (l : Po) : Prop := ai1 = u2 ai 242 i (l.length : Int) ∧ ((∀ a, a ≠ 243 → a ≠ 244 → al1 a = al a) ∧ ∀ a k, k < 60 * i ∨ 60 * i + 60 ≤ k → al1 a k = al a k) ∧ qL V nv ai1 al1 i l
theorem cpQ_e {i j : Nat} {x v : Int} (h : cpI al al1 i j x) (hL : qL V nv ai al i l) (hx : x = ai 242 i) (h60 : ai 242 i ≤ 60) (hv : v = ai 242 i) (e : ai1 = u2 ai 242 j v) : cpQ V nv ai ai1 al al1 j l := by
  have h1 := hL.1
  refine ⟨by rw [e, hv, h1], ⟨h.1, fun a k hk => h.2.2 a k (by omega)⟩, by rw [e, u2_s, hv, h1], ?_⟩
  rw [← hL.2]
  refine ls_cg _ fun t ht => ?_
  have h2 := h.2.1 t (by omega)
  rw [h2.1, h2.2]
end RB
theorem or1 {a : Int} (h : 0 ≤ a ∧ a ≤ 1) : vz a ||| vz 1 = vz 1 := by
  rcases (show a = 0 ∨ a = 1 by omega) with rfl | rfl <;> decide
theorem or0 {a : Int} (h : 0 ≤ a ∧ a ≤ 1) : vz a ||| vz 0 = vz a := by
  rcases (show a = 0 ∨ a = 1 by omega) with rfl | rfl <;> decide
