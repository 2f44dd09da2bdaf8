set_option maxRecDepth 100000 in
set_option maxHeartbeats 4000000 in
theorem k71_L {Z : Nat → Nat → Int} {al : Nat → Nat → Int64} {ai : Nat → Nat → Int} {az : Nat → Nat → Int32} {mm : Nat → Option Nat} {sk : Nat} {v0 vh : vm_H} (hM : tk Z al ai az mm sk v0 vh) (hk : kn Z) {a1 : Nat} (ha_1 : ty a1 = 1) {fr : Nat → Bool} {nv c : Nat} {R : Nat → Po} {g : Po} (hR : rwK fr nv Z al R c) (hc : c ≤ 40) (hn8 : nv ≤ 8) (hL : pL Z al a1 g) (hg : gk nv g) (h11 : Z 1 1 = (c : Int)) : ∀ N : Nat, (∀ (x2 : Int), (0 ≤ x2 ∧ x2 ≤ Z 1 1) → (∀ j : Nat, (j : Int) < x2 → R j ≠ g) → ((41 - x2 : Int).toNat < N) → vm_Wp 1 22 71 2 [some (.ref 1), some (.ref a1), some (.int (vz x2))] [] vh (vq_P 71 (fun r v1 => vh = v1 ∧ ∃ q : Int, ((0 ≤ q ∧ q ≤ 1) ∧ (q = 1 ↔ ∃ j, j < c ∧ R j = g)) ∧ r = some (.int (vz q))))) := by
  intro N
  induction N with
  | zero => exact (by intros; omega)
  | succ N ih =>
    ·
      intro x2 hx2 hi0 hN
      refine w_ldI e71_2 (fun _ => rfl) rfl ?_
      refine w_ldA e71_3 (fun _ => rfl) rfl ?_
      have e1 := tk_main hM
      refine w_get e71_4 e1 rfl ?_
      refine w_ic e71_7 (by omega) (tk_r hM 1 1) (fun (h2 : Z 1 1 ≤ x2) => ?_) (fun (h2 : x2 < Z 1 1) => ?_)
      ·
        refine w_kI e71_34 ?_
        exact w_rz e71_35 rfl (by omega) ⟨rfl, 0, ⟨by omega, fun h9 => absurd h9 (by decide), fun ⟨j9, h8, h7⟩ => absurd h7 (hi0 j9 (by omega))⟩, rfl⟩
      ·
        refine w_ldA e71_10 (fun _ => rfl) rfl ?_
        refine w_get e71_11 e1 rfl ?_
        refine w_ldI e71_14 (fun _ => rfl) rfl ?_
        obtain ⟨f4, hf5, e3⟩ := tk_rows hM
        refine w_qld e71_15 e3 (by decide) (by omega) (by omega) (by decide) (hf5 _ (by omega)) ?_
        have e6 := tk_row hM (ty_ri ((x2).toNat) (by omega))
        refine w_get e71_16 e6 rfl ?_
        refine w_ldA e71_19 (fun _ => rfl) rfl ?_
        have e7 := tk_poly hM (ty_r (ty_ri ((x2).toNat) (by omega)))
        have hk8 := hk (57 + 4 * (x2).toNat + 1) (ty_r (ty_ri ((x2).toNat) (by omega)))
        refine w_cv e71_20 (by decide) rfl e7 rfl (Nat.le_of_ble_eq_true rfl) (Nat.le_of_ble_eq_true rfl) (Nat.le_of_ble_eq_true rfl) (by decide) (by decide) (k21 hM hk (ty_r (ty_ri ((x2).toNat) (by omega))) ha_1) (fun o9 v10 hq11 => ?_)
        obtain ⟨rfl, q12, h13, rfl⟩ := hq11
        have hb14 := h13.1
        refine w_if e71_23 (by omega) (fun (h15 : q12 = 0) => ?_) (fun (h15 : q12 ≠ 0) => ?_)
        ·
          refine w_iinc (A1 := [some (.ref 1), some (.ref a1), some (.int (vz (x2 + 1)))]) e71_28 rfl (by decide) rfl ?_
          refine w_x e71_31 (fun _ => rfl) ?_
          exact w_sub (A1 := [some (.ref 1), some (.ref a1), some (.int (vz (x2 + 1)))]) (And.intro rfl (And.intro rfl (And.intro rfl trivial))) ((ih) (x2 + 1) (by omega) (fun j hj => by by_cases h9 : (j : Int) < x2; exact hi0 j h9; rw [show j = (x2).toNat by omega]; exact fun z => by have h8 := h13.2.mpr ((same_iff (hR.1 _ (by omega)).1.1 hL (hR.1 _ (by omega)).1.2 hg hn8).mpr z); omega) (by omega))
        ·
          refine w_kI e71_26 ?_
          exact w_rz e71_27 rfl (by omega) ⟨rfl, 1, ⟨by omega, fun _ => ⟨(x2).toNat, by omega, (same_iff (hR.1 _ (by omega)).1.1 hL (hR.1 _ (by omega)).1.2 hg hn8).mp (h13.2.mp (by omega))⟩, fun _ => rfl⟩, rfl⟩
set_option maxRecDepth 100000 in
set_option maxHeartbeats 4000000 in
theorem k71 {Z : Nat → Nat → Int} {al : Nat → Nat → Int64} {ai : Nat → Nat → Int} {az : Nat → Nat → Int32} {mm : Nat → Option Nat} {sk : Nat} {v0 vh : vm_H} (hM : tk Z al ai az mm sk v0 vh) (hk : kn Z) {a1 : Nat} (ha_1 : ty a1 = 1) {fr : Nat → Bool} {nv c : Nat} {R : Nat → Po} {g : Po} (hR : rwK fr nv Z al R c) (hc : c ≤ 40) (hn8 : nv ≤ 8) (hL : pL Z al a1 g) (hg : gk nv g) (h11 : Z 1 1 = (c : Int)) : vm_Rp 1 22 71 [.ref 1, .ref a1] vh (fun r v1 => vh = v1 ∧ ∃ q : Int, ((0 ≤ q ∧ q ≤ 1) ∧ (q = 1 ↔ ∃ j, j < c ∧ R j = g)) ∧ r = some (.int (vz q))) := by
  refine w_in (m := 1) ?_
  show vm_Wp _ _ _ 0 [some (.ref 1), some (.ref a1), none] [] _ _
  refine w_kI e71_0 ?_
  refine w_stI (j := 2) (A1 := [some (.ref 1), some (.ref a1), some (.int (vz 0))]) e71_1 (fun _ => rfl) (by decide) rfl ?_
  exact w_sub (A1 := [some (.ref 1), some (.ref a1), some (.int (vz 0))]) (And.intro rfl (And.intro rfl (And.intro rfl trivial))) (((k71_L (Z := Z) (al := al) (ai := ai) (az := az) (mm := mm) (sk := sk) (v0 := v0) (vh := vh) (a1 := a1) (fr := fr) (nv := nv) (c := c) (R := R) (g := g) hM hk ha_1 hR hc hn8 hL hg h11 _)) 0 (by omega) (fun j hj => by omega) (Nat.lt_succ_self _))
set_option maxRecDepth 100000 in
set_option maxHeartbeats 4000000 in
theorem k70 {Z : Nat → Nat → Int} {al : Nat → Nat → Int64} {ai : Nat → Nat → Int} {az : Nat → Nat → Int32} {mm : Nat → Option Nat} {sk : Nat} {v0 vh : vm_H} (hM : tk Z al ai az mm sk v0 vh) (hk : kn Z) {a1 : Nat} (ha_1 : ty a1 = 3) {fr : Nat → Bool} {nv c s r0 : Nat} {R : Nat → Po} {B : List Nat} (hn8 : nv ≤ 8) (ez : Z 2 0 = (nv : Int)) (hv : ∀ j, 0 ≤ ai 5 j ∧ ai 5 j < 8) (hfr : frK az ai = fr) (hR : rwK fr nv Z al R c) (hB : mbK Z mm B c) (hc : c ≤ 40) (h11 : Z 1 1 = (c : Int)) (h14 : Z 1 4 = (s : Int)) (hs : s ≤ 1000) (har : a1 = 57 + 4 * r0) (hr0 : r0 < c) : vm_Rp 4 115 70 [.ref 1, .ref a1] vh (fun r v1 => ∃ (Z1 : Nat → Nat → Int) (al1 : Nat → Nat → Int64) (ai1 : Nat → Nat → Int) (sk1 : Nat), (r = some (.int (vz (rsP fr nv B R c s r0).1)) ∧ rrO fr nv (rsP fr nv B R c s r0) Z Z1 al al1 ai ai1) ∧ kn Z1 ∧ tk Z1 al1 ai1 az mm sk1 v0 v1) := by
  have hrow : pL Z al (a1 + 1) (R r0) := by rw [har]; exact (hR.1 r0 hr0).1.1
  have hgr := (hR.1 r0 hr0).1.2
  have hB1 := hB.1
  refine w_in (m := 1) ?_
  show vm_Wp _ _ _ 0 [some (.ref 1), some (.ref a1), none] [] _ _
  refine w_ldA e70_0 (fun _ => rfl) rfl ?_
  have e1 := tk_main hM
  refine w_get e70_1 e1 rfl ?_
  refine w_ldA e70_4 (fun _ => rfl) rfl ?_
  have e2 := tk_row hM ha_1
  refine w_get e70_5 e2 rfl ?_
  have e3 := tk_poly hM (rfl : ty 234 = 1)
  have hk4 := hk 234 (rfl : ty 234 = 1)
  refine w_cv e70_8 (by decide) rfl e3 rfl (Nat.le_of_ble_eq_true rfl) (Nat.le_of_ble_eq_true rfl) (Nat.le_of_ble_eq_true rfl) (by decide) (by decide) (k19 hM hk (rfl : ty 234 = 1) (ty_r ha_1) (by omega)) (fun o5 v6 hq7 => ?_)
  obtain ⟨⟨al8, hc9, hM10⟩, rfl⟩ := hq7
  obtain ⟨Z12, hd13⟩ : ∃ z, z = u2 Z 234 0 (Z (a1 + 1) 0) := ⟨_, rfl⟩
  rw [← hd13] at hM10
  have hk11 := kn_u hk hd13 (fun _ => hk (a1 + 1) (ty_r ha_1))
  have hw1 := wkF_cp (ai := ai) hc9 hd13
  have hL1 := pL_cp hrow (u2_eq hd13) hc9
  have hz14 : Z12 1 4 = (s : Int) := by rw [hd13, u2_a (by decide)]; exact h14
  refine w_ldA e70_11 (fun _ => rfl) rfl ?_
  refine w_kS e70_12 rfl ?_
  refine w_kS e70_15 rfl ?_
  refine w_ldA e70_18 (fun _ => rfl) rfl ?_
  have e14 := tk_main hM10
  refine w_get e70_19 e14 rfl ?_
  refine w_isub e70_22 ?_
  refine w_min e70_23 (by omega) (by omega) (Nat.le_of_ble_eq_true rfl) (by decide) (by decide) (fun q15 h16 => ?_)
  refine w_cv e70_26 (by decide) rfl e14 rfl (Nat.le_of_ble_eq_true rfl) (Nat.le_of_ble_eq_true rfl) (Nat.le_of_ble_eq_true rfl) (by decide) (by decide) (k72 hM10 hk11 (by omega) (rwK_wk hR hc hw1) (mbK_wk hB hw1) hc hn8 hL1 hgr) (fun o17 v18 hq19 => ?_)
  obtain ⟨Z20, al21, ai22, sk23, q24, ho25, hw26, rfl, hk27, hM28⟩ := hq19
  have hb29 := ho25.1
  rw [show (q15).toNat = min 200 (1000 - s) by omega] at ho25
  have hw2 := wkG_tr (wkG_f hw1) (wkG_f hw26)
  have hdf2 := dF_tr (dF_wk hw1) (dF_wk hw26)
  have hm2 := ho25.2.2.1
  have hrl := rd_le (S := mbP fr nv R B) (min 200 (1000 - s)) B.length (R r0)
  have hx14 : Z20 1 4 = (s : Int) := (hw26.2.1 4 (by decide)).trans hz14
  have hx11 : Z20 1 1 = (c : Int) := (hw26.2.1 1 (by decide)).trans ((hw1.2.1 1 (by decide)).trans h11)
  have hai : ai22 5 = ai 5 := hw26.2.2.2 5 (by decide)
  refine w_stI (j := 2) (A1 := [some (.ref 1), some (.ref a1), some (.int (vz q24))]) e70_29 (fun _ => rfl) (by decide) rfl ?_
  refine w_ldA e70_30 (fun _ => rfl) rfl ?_
  refine w_x e70_31 (fun _ => rfl) ?_
  have e30 := tk_main hM28
  refine w_get e70_32 e30 rfl ?_
  refine w_ldA e70_35 (fun _ => rfl) rfl ?_
  refine w_get e70_36 e30 rfl ?_
  refine w_iadd e70_39 ?_
  refine w_put e70_40 e30 (Nat.le_of_ble_eq_true rfl) rfl (fun v33 b31 h32 => ?_)
  obtain ⟨Z34, hd35, hM36⟩ : ∃ z, z = u2 Z20 1 4 ((Z20 1 4) + (Z20 1 2)) ∧ tk z al21 ai22 az mm sk23 v0 v33 := ⟨_, rfl, tk_Zm4 hM28 (by omega) b31 h32⟩
  have hk37 := kn_u hk27 hd35 (fun h9 => absurd h9 (by decide))
  have hw3 := wkG_tr hw2 (wkG_m hd35)
  have hdf3 := dF_tr hdf2 (dF_m (Or.inr (Or.inr rfl)) hd35)
  have hy14 : Z34 1 4 = ((s + (rdP (mbP fr nv R B) (min 200 (1000 - s)) B.length (R r0)).2.1 : Nat) : Int) := by rw [hd35, u2_s]; omega
  have hy11 : Z34 1 1 = (c : Int) := by rw [hd35, u2_o (by decide)]; exact hx11
  have hyb : s + (rdP (mbP fr nv R B) (min 200 (1000 - s)) B.length (R r0)).2.1 ≤ 1000 := by omega
  refine w_ldI e70_43 (fun _ => rfl) rfl ?_
  refine w_if e70_44 (by omega) (fun (h38 : q24 ≠ 0) => ?_) (fun (h38 : q24 = 0) => ?_)
  ·
    have hT1 : (rdP (mbP fr nv R B) (min 200 (1000 - s)) B.length (R r0)).1 = true := ho25.2.1.mp (by omega)
    obtain ⟨hL2, hg2⟩ := ho25.2.2.2 (by omega)
    have hL3 : pL Z34 al21 234 (rdP (mbP fr nv R B) (min 200 (1000 - s)) B.length (R r0)).2.2 := pL_cg hL2 (by rw [hd35, u2_af (by decide)]) (fun _ _ => ⟨rfl, rfl⟩)
    refine w_ldA e70_49 (fun _ => rfl) rfl ?_
    have e39 := tk_main hM36
    refine w_get e70_50 e39 rfl ?_
    have e40 := tk_poly hM36 (rfl : ty 234 = 1)
    have hk41 := hk37 234 (rfl : ty 234 = 1)
    refine w_cv e70_53 (by decide) rfl e40 rfl (Nat.le_of_ble_eq_true rfl) (Nat.le_of_ble_eq_true rfl) (Nat.le_of_ble_eq_true rfl) (by decide) (by decide) (k26 hM36 hk37 (rfl : ty 234 = 1) (pL_gl hL3 hg2)) (fun o42 v43 hq44 => ?_)
    obtain ⟨⟨al45, hp46, hM47⟩, rfl⟩ := hq44
    have hw4 := wkG_tr hw3 (wkG_pm (Z := Z34) hp46)
    have hdf4 := dF_tr hdf3 (dF_pm (Z := Z34) (ai := ai22) hp46)
    have hL4 := pL_pm hL3 hp46
    have hg4 := gk_pr hg2
    have hl4 := hL4.1
    have hR4 := rwK_wg hR hc hw4
    have hf4 : frK az ai22 = fr := (frK_cg hai).trans hfr
    have ez4 : Z34 2 0 = (nv : Int) := by rw [hw4.1 2 (by decide) (by decide) (by decide)]; exact ez
    have hv4 : ∀ j, 0 ≤ ai22 5 j ∧ ai22 5 j < 8 := by rw [hai]; exact hv
    refine w_ldA e70_56 (fun _ => rfl) rfl ?_
    have e48 := tk_main hM47
    refine w_get e70_57 e48 rfl ?_
    have e49 := tk_poly hM47 (rfl : ty 234 = 1)
    have hk50 := hk37 234 (rfl : ty 234 = 1)
    refine w_get e70_60 e49 rfl ?_
    refine w_if e70_63 (tk_r hM47 234 0) (fun (h51 : Z34 234 0 = 0) => ?_) (fun (h51 : Z34 234 0 ≠ 0) => ?_)
    ·
      refine w_kI e70_77 ?_
      exact w_ri e70_78 rfl ⟨Z34, al45, ai22, sk23, by rw [rs_3 hT1 (Or.inl (List.eq_nil_of_length_eq_zero (by omega)))]; exact ⟨rfl, rr_0 hR hc hw4 hdf4 hy11 hy14 hyb⟩, hk37, hM47⟩
    ·
      refine w_ldA e70_66 (fun _ => rfl) rfl ?_
      refine w_ldA e70_67 (fun _ => rfl) rfl ?_
      refine w_get e70_68 e48 rfl ?_
      refine w_cv e70_71 (by decide) rfl e48 rfl (Nat.le_of_ble_eq_true rfl) (Nat.le_of_ble_eq_true rfl) (Nat.le_of_ble_eq_true rfl) (by decide) (by decide) (k71 hM47 hk37 (rfl : ty 234 = 1) hR4 hc hn8 hL4 hg4 hy11) (fun o52 v53 hq54 => ?_)
      obtain ⟨rfl, q55, h56, rfl⟩ := hq54
      have hb57 := h56.1
      refine w_if e70_74 (by omega) (fun (h58 : q55 = 0) => ?_) (fun (h58 : q55 ≠ 0) => ?_)
      ·
        refine w_ldA e70_79 (fun _ => rfl) rfl ?_
        refine w_get e70_80 e48 rfl ?_
        refine w_ldA e70_83 (fun _ => rfl) rfl ?_
        refine w_get e70_84 e48 rfl ?_
        have e59 := tk_pla hM47
        have hn60 : 0 ≤ Z34 2 0 ∧ Z34 2 0 ≤ 8 := by omega
        refine w_cv e70_87 (by decide) rfl e59 rfl (Nat.le_of_ble_eq_true rfl) (Nat.le_of_ble_eq_true rfl) (Nat.le_of_ble_eq_true rfl) (by decide) (by decide) (k12 hM47 hk37 hn60 hv4 (rfl : ty 234 = 1)) (fun o61 v62 hq63 => ?_)
        obtain ⟨rfl, rfl⟩ := hq63
        have hp64 := mpk_bd (az 3) (ai22 5) (fun p => dgk (al45 (235)) p (Z34 234 0).toNat) (Z34 2 0).toNat
        show vm_Wp _ _ _ 90 _ [.int (vz (mpk (az 3) (ai22 5) (fun p => dgk (al45 (235)) p (Z34 234 0).toNat) (Z34 2 0).toNat))] _ _
        have hmp : mpk (az 3) (ai22 5) (fun p => dgk (al45 (235)) p (Z34 234 0).toNat) (Z34 2 0).toNat = plP fr nv (prP (rdP (mbP fr nv R B) (min 200 (1000 - s)) B.length (R r0)).2.2) := mp_e hL4 hg4 hn8 ez4 hf4
        refine w_kI e70_90 ?_
        refine w_ic e70_91 (by omega) (by omega) (fun (h65 : mpk (az 3) (ai22 5) (fun p => dgk (al45 (235)) p (Z34 234 0).toNat) (Z34 2 0).toNat ≠ -1) => ?_) (fun (h65 : mpk (az 3) (ai22 5) (fun p => dgk (al45 (235)) p (Z34 234 0).toNat) (Z34 2 0).toNat = -1) => ?_)
        ·
          refine w_ldA e70_107 (fun _ => rfl) rfl ?_
          refine w_get e70_108 e48 rfl ?_
          refine w_kB e70_111 rfl ?_
          refine w_ic e70_113 (tk_r hM47 1 1) (by omega) (fun (h66 : Z34 1 1 < 40) => ?_) (fun (h66 : 40 ≤ Z34 1 1) => ?_)
          ·
            refine w_ldA e70_118 (fun _ => rfl) rfl ?_
            refine w_get e70_119 e48 rfl ?_
            refine w_ldA e70_122 (fun _ => rfl) rfl ?_
            refine w_get e70_123 e48 rfl ?_
            obtain ⟨f68, hf69, e67⟩ := tk_rows hM47
            refine w_qld e70_126 e67 (by decide) (by omega) (by omega) (by decide) (hf69 _ (by omega)) ?_
            refine w_ldA e70_127 (fun _ => rfl) rfl ?_
            refine w_get e70_128 e48 rfl ?_
            refine w_ldA e70_131 (fun _ => rfl) rfl ?_
            refine w_get e70_132 e48 rfl ?_
            have e70 := tk_row hM47 (ty_ri ((Z34 1 1).toNat) (by omega))
            refine w_cv e70_135 (by decide) rfl e70 rfl (Nat.le_of_ble_eq_true rfl) (Nat.le_of_ble_eq_true rfl) (Nat.le_of_ble_eq_true rfl) (by decide) (by decide) (k29 hM47 hk37 (ty_ri ((Z34 1 1).toNat) (by omega)) (rfl : ty 234 = 1) hn8 ez4 hv4 hL4 hg4 (by omega)) (fun o71 v72 hq73 => ?_)
            obtain ⟨⟨Z74, al75, ht76, hk77, hM78⟩, rfl⟩ := hq73
            have ht9 := ht76
            rw [show (Z34 1 1).toNat = c by omega, hf4, pr_pr hg2] at ht9
            have hc5 : Z74 1 1 = (c : Int) := by rw [ht9.1 1 (by omega) (by omega)]; exact hy11
            refine w_ldA e70_138 (fun _ => rfl) rfl ?_
            refine w_x e70_139 (fun _ => rfl) ?_
            have e79 := tk_main hM78
            refine w_get e70_140 e79 rfl ?_
            refine w_kI e70_143 ?_
            refine w_iadd e70_144 ?_
            refine w_put e70_145 e79 (Nat.le_of_ble_eq_true rfl) rfl (fun v82 b80 h81 => ?_)
            obtain ⟨Z83, hd84, hM85⟩ : ∃ z, z = u2 Z74 1 1 ((Z74 1 1) + 1) ∧ tk z al75 ai22 az mm sk23 v0 v82 := ⟨_, rfl, tk_Zm1 hM78 (by omega) b80 h81⟩
            have hk86 := kn_u hk77 hd84 (fun h9 => absurd h9 (by decide))
            refine w_kI e70_148 ?_
            exact w_ri e70_149 rfl ⟨Z83, al75, ai22, sk23, by rw [rs_x hT1 (fun z => z.elim (fun z => by rw [z] at hl4; have hl5 : Z34 234 0 = 0 := hl4; omega) (fun z => by have h9 := h56.2.mpr z; omega)), if_neg (by omega), if_neg (by omega)]; exact ⟨rfl, rr_t hR (by omega) hw4 hdf4 hy14 hyb hg4 (by omega) ht9 (by rw [hd84, hc5])⟩, hk86, hM85⟩
          ·
            refine w_kI e70_116 ?_
            exact w_ri e70_117 rfl ⟨Z34, al45, ai22, sk23, by rw [rs_x hT1 (fun z => z.elim (fun z => by rw [z] at hl4; have hl5 : Z34 234 0 = 0 := hl4; omega) (fun z => by have h9 := h56.2.mpr z; omega)), if_neg (by omega), if_pos (by omega)]; exact ⟨rfl, rr_0 hR hc hw4 hdf4 hy11 hy14 hyb⟩, hk37, hM47⟩
        ·
          refine w_ldA e70_94 (fun _ => rfl) rfl ?_
          refine w_get e70_95 e48 rfl ?_
          refine w_ldA e70_98 (fun _ => rfl) rfl ?_
          refine w_get e70_99 e48 rfl ?_
          have e87 := tk_poly hM47 (rfl : ty 224 = 1)
          have hk88 := hk37 224 (rfl : ty 224 = 1)
          refine w_cv e70_102 (by decide) rfl e87 rfl (Nat.le_of_ble_eq_true rfl) (Nat.le_of_ble_eq_true rfl) (Nat.le_of_ble_eq_true rfl) (by decide) (by decide) (k19 hM47 hk37 (rfl : ty 224 = 1) (rfl : ty 234 = 1) (by omega)) (fun o89 v90 hq91 => ?_)
          obtain ⟨⟨al92, hc93, hM94⟩, rfl⟩ := hq91
          obtain ⟨Z96, hd97⟩ : ∃ z, z = u2 Z34 224 0 (Z34 234 0) := ⟨_, rfl⟩
          rw [← hd97] at hM94
          have hk95 := kn_u hk37 hd97 (fun _ => hk37 234 (rfl : ty 234 = 1))
          refine w_kI e70_105 ?_
          exact w_ri e70_106 rfl ⟨Z96, al92, ai22, sk23, by rw [rs_x hT1 (fun z => z.elim (fun z => by rw [z] at hl4; have hl5 : Z34 234 0 = 0 := hl4; omega) (fun z => by have h9 := h56.2.mpr z; omega)), if_pos (by omega)]; exact ⟨rfl, rr_c (m := 0) (v := 0) hR hc hw4 hdf4 hy11 hy14 hyb hL4 hg4 hc93 hd97⟩, hk95, hM94⟩
      ·
        refine w_kI e70_77 ?_
        exact w_ri e70_78 rfl ⟨Z34, al45, ai22, sk23, by rw [rs_3 hT1 (Or.inr (h56.2.mp (by omega)))]; exact ⟨rfl, rr_0 hR hc hw4 hdf4 hy11 hy14 hyb⟩, hk37, hM47⟩
  ·
    refine w_kI e70_47 ?_
    exact w_ri e70_48 rfl ⟨Z34, al21, ai22, sk23, by rw [rs_2 (rd_fls ho25 (by omega))]; exact ⟨rfl, rr_0 hR hc hw3 hdf3 hy11 hy14 hyb⟩, hk37, hM36⟩
