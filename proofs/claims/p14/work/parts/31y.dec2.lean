section D2
variable {fr : Nat → Bool} {nv c s n : Nat} {R : Nat → Po} {B : List Nat} {mm m1 m2 : Nat → Option Nat} {Z Z1 Z2 Z3 : Nat → Nat → Int} {al al1 al2 : Nat → Nat → Int64} {ai ai1 ai2 : Nat → Nat → Int}
theorem rs_same {r : Nat} : (rsP fr nv B R c s r).2.2.1 = c → (rsP fr nv B R c s r).2.1 = R := by
  unfold rsP
  show (if _ then _ else if _ then _ else if _ then _ else if _ then _ else _ : Int × (Nat → Po) × Nat × Nat × Option Po).2.2.1 = c → (if _ then _ else if _ then _ else if _ then _ else if _ then _ else _ : Int × (Nat → Po) × Nat × Nat × Option Po).2.1 = R
  split
  · exact fun _ => rfl
  · split
    · exact fun _ => rfl
    · split
      · exact fun _ => rfl
      · split
        · exact fun _ => rfl
        · intro h
          have h : c + 1 = c := h
          omega
theorem rw_same : ∀ (n r : Nat) (R : Nat → Po) (c s h : Nat), c ≤ (rwP fr nv B h n r R c s).2.2.1 ∧ ((rwP fr nv B h n r R c s).2.2.1 = c → (rwP fr nv B h n r R c s).2.1 = R) := by
  intro n
  induction n with
  | zero => intro r R c s h; rw [rwP]; exact ⟨Nat.le_refl _, fun _ => rfl⟩
  | succ n ih =>
    intro r R c s h
    by_cases q : r ∈ B
    · rw [rw_in q]; exact ih _ _ _ _ _
    · rw [rw_out q]
      have h1 := rs_mono (fr := fr) (nv := nv) (B := B) (R := R) (c := c) (s := s) (r := r)
      split
      · have h2 := ih (r + 1) (rsP fr nv B R c s r).2.1 (rsP fr nv B R c s r).2.2.1 (rsP fr nv B R c s r).2.2.2.1 h
        refine ⟨by omega, fun e => ?_⟩
        have e1 : (rsP fr nv B R c s r).2.2.1 = c := by omega
        rw [h2.2 (e.trans e1.symm), rs_same e1]
      · exact ⟨h1.1, rs_same⟩
theorem rn_1 (h : (rnP fr nv R c s).1 = 1) : (rnP fr nv R c s).2.2.1 = c ∧ (rnP fr nv R c s).2.1 = R := by
  have hs := rw_same (fr := fr) (nv := nv) (B := bsP fr nv R c 8 []) c 0 R c s c
  have hne : ∀ (n r : Nat) (R' : Nat → Po) (c' s' : Nat), (rwP fr nv (bsP fr nv R c 8 []) c n r R' c' s').1 ≠ 1 := by
    intro n
    induction n with
    | zero => intro r R' c' s'; rw [rwP]; exact (by decide : (3 : Int) ≠ 1)
    | succ n ih =>
      intro r R' c' s'
      by_cases q : r ∈ bsP fr nv R c 8 []
      · rw [rw_in q]; exact ih _ _ _ _
      · rw [rw_out q]
        split
        · exact ih _ _ _ _
        · unfold rsP
          show (if _ then _ else if _ then _ else if _ then _ else if _ then _ else _ : Int × (Nat → Po) × Nat × Nat × Option Po).1 ≠ 1
          split
          · exact (by decide : (2 : Int) ≠ 1)
          · split
            · exact (by decide : (3 : Int) ≠ 1)
            · split
              · exact (by decide : (0 : Int) ≠ 1)
              · split
                · exact (by decide : (2 : Int) ≠ 1)
                · exact (by decide : (3 : Int) ≠ 1)
  unfold rnP at h ⊢
  revert h
  show (if _ then _ else _ : Int × (Nat → Po) × Nat × Nat × Option Po).1 = 1 → (if _ then _ else _ : Int × (Nat → Po) × Nat × Nat × Option Po).2.2.1 = c ∧ (if _ then _ else _ : Int × (Nat → Po) × Nat × Nat × Option Po).2.1 = R
  split
  · intro h
    have h : (if (rwP fr nv (bsP fr nv R c 8 []) c c 0 R c s).2.2.1 = c then (1 : Int) else 3) = 1 := h
    by_cases q : (rwP fr nv (bsP fr nv R c 8 []) c c 0 R c s).2.2.1 = c
    · exact ⟨q, hs.2 q⟩
    · rw [if_neg q] at h
      exact absurd h (by decide)
  · intro h
    exact absurd h (hne _ _ _ _ _)
/-- the condition, whole -/
def cnD (nv : Nat) (o : Option Po) (Z : Nat → Nat → Int) (al : Nat → Nat → Int64) : Prop := match o with
  | some g => pL Z al 224 g ∧ gk nv g
  | none => Z 224 0 = 0
/-- what stands after some rounds -/
def dsS (fr : Nat → Bool) (nv : Nat) (t : Int × (Nat → Po) × Nat × Nat × Option Po) (k : Nat) (Z : Nat → Nat → Int) (al : Nat → Nat → Int64) (mm : Nat → Option Nat) : Prop := ((Z 1 1 = (t.2.2.1 : Int) ∧ t.2.2.1 ≤ 40) ∧ (Z 1 4 = (t.2.2.2.1 : Int) ∧ t.2.2.2.1 ≤ 1000) ∧ (Z 1 3 = (k : Int) ∧ k ≤ 12)) ∧ rwW fr nv Z al t.2.1 t.2.2.1 ∧ (t.1 ≠ 0 → rwK fr nv Z al t.2.1 t.2.2.1) ∧ (t.1 = 1 → mbK Z mm (bsP fr nv t.2.1 t.2.2.1 8 []) t.2.2.1) ∧ (cnD nv t.2.2.2.2 Z al ∧ Z 227 0 = 0)
theorem rn_3 (h : (rnP fr nv R c s).1 = 3) : (rnP fr nv R c s).2.2.2.2 = none := by
  have hne : ∀ (B : List Nat) (h n r : Nat) (R' : Nat → Po) (c' s' : Nat), (rwP fr nv B h n r R' c' s').1 = 3 → (rwP fr nv B h n r R' c' s').2.2.2.2 = none := by
    intro B h n
    induction n with
    | zero => intro r R' c' s'; rw [rwP]; exact fun _ => rfl
    | succ n ih =>
      intro r R' c' s'
      by_cases q : r ∈ B
      · rw [rw_in q]; exact ih _ _ _ _
      · rw [rw_out q]
        split
        · exact ih _ _ _ _
        · exact rs_mono.2
  unfold rnP at h ⊢
  revert h
  show (if _ then _ else _ : Int × (Nat → Po) × Nat × Nat × Option Po).1 = 3 → (if _ then _ else _ : Int × (Nat → Po) × Nat × Nat × Option Po).2.2.2.2 = none
  split
  · next q => exact fun _ => hne _ _ _ _ _ _ _ q
  · exact hne _ _ _ _ _ _ _
def dcI (fr : Nat → Bool) (nv : Nat) (R : Nat → Po) (c : Nat) (Z Z1 : Nat → Nat → Int) (al al1 : Nat → Nat → Int64) (ai ai1 : Nat → Nat → Int) (mm : Nat → Option Nat) (x : Int) : Prop := ∃ t k, x = t.1 ∧ ((0 ≤ x ∧ x ≤ 3) ∧ (t.1 = 3 → t.2.2.2.2 = none)) ∧ dsS fr nv t k Z1 al1 mm ∧ deP fr nv R c = (if t.1 = 3 then dcQ fr nv (12 - k) k t.2.1 t.2.2.1 t.2.2.2.1 else (t, k)) ∧ dcF Z Z1 al al1 ai ai1
theorem cnD_o {o : Option Po} (h : cnO nv o Z Z1 al al1) (h0 : Z 224 0 = 0) : cnD nv o Z1 al1 := by
  cases o with
  | some g => exact h
  | none =>
    have := h.1
    show Z1 224 0 = 0
    rw [this]
    exact h0
theorem rn_rng : 0 ≤ (rnP fr nv R c s).1 ∧ (rnP fr nv R c s).1 ≤ 3 := by
  have hne : ∀ (B : List Nat) (h n r : Nat) (R' : Nat → Po) (c' s' : Nat), 0 ≤ (rwP fr nv B h n r R' c' s').1 ∧ (rwP fr nv B h n r R' c' s').1 ≤ 3 := by
    intro B h n
    induction n with
    | zero => intro r R' c' s'; rw [rwP]; exact (by decide : (0 : Int) ≤ 3 ∧ (3 : Int) ≤ 3)
    | succ n ih =>
      intro r R' c' s'
      by_cases q : r ∈ B
      · rw [rw_in q]; exact ih _ _ _ _
      · rw [rw_out q]
        split
        · exact ih _ _ _ _
        · exact rs_rng
  unfold rnP
  show 0 ≤ (if _ then _ else _ : Int × (Nat → Po) × Nat × Nat × Option Po).1 ∧ (if _ then _ else _ : Int × (Nat → Po) × Nat × Nat × Option Po).1 ≤ 3
  split
  · show 0 ≤ (if _ then (1 : Int) else 3) ∧ (if _ then (1 : Int) else 3) ≤ 3
    split <;> decide
  · exact hne _ _ _ _ _ _ _
theorem dc_s {t : Int × (Nat → Po) × Nat × Nat × Option Po} {k : Nat} (hS : dsS fr nv t k Z1 al1 mm) (hn : t.2.2.2.2 = none) (he : deP fr nv R c = (if t.1 = 3 then dcQ fr nv (12 - k) k t.2.1 t.2.2.1 t.2.2.2.1 else (t, k))) (h3 : t.1 = 3) (hk : k < 12) (hF : dcF Z Z1 al al1 ai ai1) (ez : Z2 = u2 Z1 1 3 ((k : Int) + 1)) (hm : mrO fr nv (bsP fr nv t.2.1 t.2.2.1 8 []) t.2.2.1 (rnP fr nv t.2.1 t.2.2.1 t.2.2.2.1) Z2 Z3 al1 al2 ai1 ai2 m2) : dcI fr nv R c Z Z3 al al2 ai ai2 m2 (rnP fr nv t.2.1 t.2.2.1 t.2.2.2.1).1 := by
  obtain ⟨⟨g1, g2, g3⟩, g4, g5, g6, g7, g8⟩ := hS
  obtain ⟨m1, m2, m3, m4, m5⟩ := hm
  rw [hn] at g7
  have z13 : Z3 1 3 = ((k + 1 : Nat) : Int) := by rw [m5.2.1.2.1, ez, u2_s]; omega
  refine ⟨rnP fr nv t.2.1 t.2.2.1 t.2.2.2.1, k + 1, rfl, ⟨rn_rng, rn_3⟩, ⟨⟨m1.1, m1.2, z13, by omega⟩, m2.1, fun _ => m2, fun h1 => ?_, ?_, ?_⟩, ?_, ?_⟩
  · have e := rn_1 h1
    rw [e.1, e.2]
    exact m3.1
  · refine cnD_o m4 ?_
    rw [ez, u2_af (by decide)]
    exact g7
  · rw [m5.1 227 (by decide) (by omega), ez, u2_af (by decide)]
    exact g8
  · rw [he, if_pos h3, show 12 - k = (12 - (k + 1)) + 1 by omega, dcQ]
  · exact dcF_tr hF (dcF_tr (dcF_u ez (Or.inl ⟨rfl, by omega⟩)) (dcF_d m5))
/-- what decompose leaves where it decomposes -/
def deO (fr : Nat → Bool) (nv : Nat) (t : (Int × (Nat → Po) × Nat × Nat × Option Po) × Nat) (Z Z1 : Nat → Nat → Int) (al al1 : Nat → Nat → Int64) (ai ai1 : Nat → Nat → Int) (mm : Nat → Option Nat) : Prop := dsS fr nv t.1 t.2 Z1 al1 mm ∧ (t.1.1 ≠ 1 → Z1 217 0 = 0) ∧ dcF Z Z1 al al1 ai ai1
theorem ds_u {t : Int × (Nat → Po) × Nat × Nat × Option Po} {k : Nat} {q : Int} (hS : dsS fr nv t k Z al mm) (h1 : t.1 ≠ 1) (e : Z1 = u2 Z 217 0 q) : dsS fr nv t k Z1 al mm := by
  obtain ⟨⟨g1, g2, g3⟩, g4, g5, g6, g7, g8⟩ := hS
  have ew : ∀ (R : Nat → Po) (c : Nat), c ≤ 40 → rwW fr nv Z al R c → rwW fr nv Z1 al R c := fun R c hc h r hr => by
    obtain ⟨⟨q1, q2⟩, q3, q4⟩ := h r hr
    have e1 : Z1 (57 + 4 * r) = Z (57 + 4 * r) := by rw [e, u2_af (by omega)]
    exact ⟨⟨pL_cg q1 (by rw [e, u2_a (by omega)]) (fun _ _ => ⟨rfl, rfl⟩), q2⟩, by rw [e1]; exact q3, fun z => by rw [e1]; exact q4 z⟩
  refine ⟨⟨⟨by rw [e, u2_af (by decide)]; exact g1.1, g1.2⟩, ⟨by rw [e, u2_af (by decide)]; exact g2.1, g2.2⟩, by rw [e, u2_af (by decide)]; exact g3.1, g3.2⟩, ew _ _ g1.2 g4, fun z => ⟨ew _ _ g1.2 g4, (g5 z).2⟩, fun z => absurd z h1, ?_, by rw [e, u2_af (by decide)]; exact g8⟩
  cases ho : t.2.2.2.2 with
  | some g =>
    rw [ho] at g7
    exact ⟨pL_cg g7.1 (by rw [e, u2_af (by decide)]) (fun _ _ => ⟨rfl, rfl⟩), g7.2⟩
  | none =>
    rw [ho] at g7
    show Z1 224 0 = 0
    rw [e, u2_af (by decide)]
    exact g7
theorem ds_2 {t : Int × (Nat → Po) × Nat × Nat × Option Po} {k : Nat} {a : Int} (hS : dsS fr nv t k Z al mm) (h3 : t.1 = 3) (hn : t.2.2.2.2 = none) (ha : a ≠ 1) : dsS fr nv (a, t.2.1, t.2.2.1, t.2.2.2.1, none) k Z al mm := by
  obtain ⟨g1, g4, g5, g6, g7, g8⟩ := hS
  rw [hn] at g7
  exact ⟨g1, g4, fun _ => g5 (by omega), fun z => absurd z ha, g7, g8⟩
end D2
section D3
variable {fr : Nat → Bool} {nv c s n : Nat} {R U : Nat → Po} {h : Nat → Bool} {mm : Nat → Option Nat} {Z Z0 Z1 Z2 Zt : Nat → Nat → Int} {al al1 al2 alt : Nat → Nat → Int64} {ai ai1 : Nat → Nat → Int}
theorem th_z {q : Int} {m : Nat} (hh : (0 ≤ q ∧ q ≤ 1) ∧ (q = 1 ↔ m ≠ 0)) (hq : q = 0) : m = 0 := by
  by_cases e : m = 0
  · exact e
  · have := hh.2.mpr e
    omega
theorem tcO_b {q : Int} (hh : tcO fr nv R c Z Z1 al al1 q) : 0 ≤ q ∧ q ≤ 1 := by
  rcases hh with ⟨h1, _⟩ | ⟨h1, _⟩ <;> omega
theorem usK_c (hU : usK nv n U Z al) (hn : n ≤ 16) (hd : dcF Z Z1 al al1 ai ai1) : usK nv n U Z1 al1 := fun i hi => by
  obtain ⟨h1, h2⟩ := hU i hi
  exact ⟨pL_cg h1 (by rw [hd.1 (7 + 3 * i) (by omega) (by omega)]) (fun t _ => ⟨by rw [hd.2.2.1 _ (by omega)], by rw [hd.2.2.1 _ (by omega)]⟩), h2⟩
theorem rwK_u3 {j : Nat} {v : Int} (hR : rwK fr nv Z al R c) (hc : c ≤ 40) (e : Z1 = u2 Z 1 j v) : rwK fr nv Z1 al R c := ⟨fun r hr => by
  obtain ⟨⟨q1, q2⟩, q3, q4⟩ := hR.1 r hr
  have e1 : Z1 (57 + 4 * r) = Z (57 + 4 * r) := by rw [e, u2_af (by omega)]
  exact ⟨⟨pL_cg q1 (by rw [e, u2_a (by omega)]) (fun _ _ => ⟨rfl, rfl⟩), q2⟩, by rw [e1]; exact q3, fun z => by rw [e1]; exact q4 z⟩, hR.2⟩
theorem dc_3 {q : Int} (hth : thI fr nv U h Z0 Zt al alt ai (n : Int)) (ht : tcO fr nv (thP U h n).1 (thP U h n).2 Zt Z1 alt al1 q) (hq : q = 0) (hn : n ≤ 16) (hdz : dcF Z Z0 al al ai ai) (h13 : Z0 1 3 = 0) (h14 : Z0 1 4 = 0) (h224 : Z0 224 0 = 0) (h227 : Z0 227 0 = 0) : dcI fr nv (thP U h n).1 (thP U h n).2 Z Z1 al al1 ai ai mm 3 := by
  rcases ht with ⟨_, t2, t3, t4⟩ | ⟨t1, _⟩
  · subst t3 t4
    obtain ⟨g1, g2, g3, ⟨g4, g5⟩, g6⟩ := hth
    have hl := th_le (U := U) (h := h) n
    refine ⟨(3, (thP U h n).1, (thP U h n).2, 0, none), 0, rfl, ⟨by decide, fun _ => rfl⟩, ⟨⟨⟨g1, by show (thP U h n).2 ≤ 40; omega⟩, ⟨by rw [g3, h14]; rfl, by show 0 ≤ 1000; omega⟩, by rw [g6.2.1.2.1, h13]; rfl, by omega⟩, g2, fun _ => ⟨g2, fs_all _ t2⟩, fun z => absurd z (show ¬ (3 : Int) = 1 by decide), ?_, ?_⟩, ?_, dcF_tr hdz (dcF_d g6)⟩
    · show Z1 224 0 = 0
      rw [g5.1]; exact h224
    · rw [g6.1 227 (by decide) (by omega)]; exact h227
    · unfold deP
      rw [t2]
      rfl
  · omega
theorem dc_1 {q : Int} (hth : thI fr nv U h Z0 Zt al alt ai (n : Int)) (ht : tcO fr nv (thP U h n).1 (thP U h n).2 Zt Z1 alt al1 q) (hq : q = 1) (hn : n ≤ 16) (hdz : dcF Z Z0 al al ai ai) (h13 : Z0 1 3 = 0) (h14 : Z0 1 4 = 0) (h227 : Z0 227 0 = 0) : dcI fr nv (thP U h n).1 (thP U h n).2 Z Z1 al al1 ai ai mm 0 := by
  rcases ht with ⟨t1, _⟩ | ⟨_, r, t2, t3, t4, t5⟩
  · omega
  · obtain ⟨g1, g2, g3, ⟨g4, g5⟩, g6⟩ := hth
    have g2 : rwW fr nv Zt alt (thP U h n).1 (thP U h n).2 := g2
    have hl := th_le (U := U) (h := h) n
    have hW : rwW fr nv Z1 al1 (thP U h n).1 (thP U h n).2 := fun r hr => by
      obtain ⟨⟨q1, q2⟩, q3, q4⟩ := g2 r hr
      have e : Z1 (57 + 4 * r) = Zt (57 + 4 * r) := by rw [t4, u2_af (by omega)]
      refine ⟨⟨pL_cg q1 (by rw [t4, u2_a (by omega)]) fun t _ => ⟨?_, ?_⟩, q2⟩, by rw [e]; exact q3, fun z => by rw [e]; exact q4 z⟩
      · rw [t5.1 _ (by omega) (by omega)]
      · rw [t5.1 _ (by omega) (by omega)]
    refine ⟨(0, (thP U h n).1, (thP U h n).2, 0, some ((thP U h n).1 r)), 0, rfl, ⟨by decide, fun z => absurd z (show ¬ (0 : Int) = 3 by decide)⟩, ⟨⟨⟨by rw [t4, u2_af (by decide)]; exact g1, by show (thP U h n).2 ≤ 40; omega⟩, ⟨by rw [t4, u2_af (by decide), g3, h14]; rfl, by show 0 ≤ 1000; omega⟩, by rw [t4, u2_af (by decide), g6.2.1.2.1, h13]; rfl, by omega⟩, hW, fun z => absurd rfl z, fun z => absurd z (show ¬ (0 : Int) = 1 by decide), ?_, ?_⟩, ?_, dcF_tr hdz (dcF_tr (dcF_d g6) (dcF_d (dF_cc t5 t4)))⟩
    · exact ⟨pL_cp (g2 r t2).1.1 (by rw [t4, u2_s]) t5, (g2 r t2).1.2⟩
    · rw [t4, u2_af (by decide), g6.1 227 (by decide) (by omega)]; exact h227
    · unfold deP
      rw [t3]
      rfl
theorem de_e {t : Int × (Nat → Po) × Nat × Nat × Option Po} {k : Nat} {x1 v : Int} (hS : dsS fr nv t k Z1 al1 mm) (hno : t.1 = 3 → t.2.2.2.2 = none) (he : deP fr nv R c = (if t.1 = 3 then dcQ fr nv (12 - k) k t.2.1 t.2.2.1 t.2.2.2.1 else (t, k))) (hF : dcF Z Z1 al al1 ai ai1) (hx : x1 = t.1) (hz : (x1 = 1 ∧ Z2 = Z1) ∨ (x1 ≠ 1 ∧ Z2 = u2 Z1 217 0 0)) (hv : (x1 = 3 ∧ v = 2 ∧ 12 ≤ k) ∨ (x1 ≠ 3 ∧ v = x1)) : deO fr nv (deP fr nv R c) Z Z2 al al1 ai ai1 mm ∧ (deP fr nv R c).1.1 = v := by
  have hF2 : dcF Z Z2 al al1 ai ai1 := by
    rcases hz with ⟨_, e⟩ | ⟨_, e⟩
    · rw [e]; exact hF
    · exact dcF_tr hF (dcF_u e (Or.inr (Or.inl (by omega))))
  have hS2 : t.1 = 3 ∨ t.1 ≠ 3 → dsS fr nv t k Z2 al1 mm := fun _ => by
    rcases hz with ⟨_, e⟩ | ⟨q, e⟩
    · rw [e]; exact hS
    · exact ds_u hS (by omega) e
  have h217 : x1 ≠ 1 → Z2 217 0 = 0 := fun q => by
    rcases hz with ⟨e, _⟩ | ⟨_, e⟩
    · omega
    · rw [e, u2_s]
  rcases hv with ⟨v1, v2, v3⟩ | ⟨v1, v2⟩
  · have e : deP fr nv R c = ((2, t.2.1, t.2.2.1, t.2.2.2.1, none), k) := by
      rw [he, if_pos (by omega), show 12 - k = 0 by omega, dcQ]
    rw [e]
    exact ⟨⟨ds_2 (hS2 (by omega)) (by omega) (hno (by omega)) (by decide), fun _ => h217 (by omega), hF2⟩, v2.symm⟩
  · have e : deP fr nv R c = (t, k) := by rw [he, if_neg (by omega)]
    rw [e]
    exact ⟨⟨hS2 (by omega), fun q => h217 (by rw [hx]; exact q), hF2⟩, by rw [v2]; exact hx.symm⟩
end D3
