set_option maxRecDepth 100000 in
set_option maxHeartbeats 4000000 in
theorem k123_L {Z : Nat → Nat → Int} {al : Nat → Nat → Int64} {ai : Nat → Nat → Int} {az : Nat → Nat → Int32} {mm : Nat → Option Nat} {sk : Nat} {v0 : vm_H} (hk : kn Z) {a0 : Nat} (ha_0 : ty a0 = 15) {i1 : Int} (hi_1 : -2147483648 ≤ i1 ∧ i1 < 2147483648) : ∀ N : Nat, (∀ (vh : vm_H) (ai_ : Nat → Nat → Int) (x2 : Int), (tk Z al ai_ az mm sk v0 vh) → (0 ≤ x2 ∧ x2 ≤ 8) → (∀ b, b ≠ a0 → ai_ b = ai b) → ((8 - x2 : Int).toNat < N) → vm_Wp 0 0 123 5 [some (.ref a0), some (.int (vz i1)), some (.int (vz x2)), some (.int (vz 8))] [] vh (vq_P 123 (fun r v1 => (∃ ai1 : Nat → Nat → Int, (∀ b, b ≠ a0 → ai1 b = ai b) ∧ tk Z al ai1 az mm sk v0 v1) ∧ r = none))) := by
  intro N
  induction N with
  | zero => exact (by intros; omega)
  | succ N ih =>
    ·
      intro vh ai_ x2 hM hx2 hi0 hN
      refine w_ldI e123_5 (fun _ => rfl) rfl ?_
      refine w_ldI e123_6 (fun _ => rfl) rfl ?_
      refine w_ic e123_7 (by omega) (by omega) (fun (h2 : 8 ≤ x2) => ?_) (fun (h2 : x2 < 8) => ?_)
      ·
        exact w_rv e123_20 rfl ⟨⟨ai_, hi0, hM⟩, rfl⟩
      ·
        refine w_ldA e123_10 (fun _ => rfl) rfl ?_
        refine w_ldI e123_11 (fun _ => rfl) rfl ?_
        refine w_ldI e123_12 (fun _ => rfl) rfl ?_
        have e3 := tk_i8 hM ha_0
        refine w_ast e123_13 e3 (by omega) (by omega) (by decide) (ty_ne ha_0 (rfl : ty 0 = 0) (by decide)) (fun v6 b4 h5 => ?_)
        obtain ⟨ai7, hd8, hM9⟩ : ∃ z, z = u2 ai_ a0 (x2).toNat i1 ∧ tk Z al z az mm sk v0 v6 := ⟨_, rfl, tk_I hM ha_0 hi_1 b4 h5⟩
        refine w_iinc (A1 := [some (.ref a0), some (.int (vz i1)), some (.int (vz (x2 + 1))), some (.int (vz 8))]) e123_14 rfl (by decide) rfl ?_
        refine w_x e123_17 (fun _ => rfl) ?_
        exact w_sub (A1 := [some (.ref a0), some (.int (vz i1)), some (.int (vz (x2 + 1))), some (.int (vz 8))]) (And.intro rfl (And.intro rfl (And.intro rfl (And.intro rfl trivial)))) ((ih) v6 ai7 (x2 + 1) hM9 (by omega) (fun b hb => by rw [hd8, u2_af hb]; exact hi0 b hb) (by omega))
set_option maxRecDepth 100000 in
set_option maxHeartbeats 4000000 in
theorem k123 {Z : Nat → Nat → Int} {al : Nat → Nat → Int64} {ai : Nat → Nat → Int} {az : Nat → Nat → Int32} {mm : Nat → Option Nat} {sk : Nat} {v0 vh : vm_H} (hM : tk Z al ai az mm sk v0 vh) (hk : kn Z) {a0 : Nat} (ha_0 : ty a0 = 15) {i1 : Int} (hi_1 : -2147483648 ≤ i1 ∧ i1 < 2147483648) : vm_Rp 0 0 123 [.ref a0, .int (vz i1)] vh (fun r v1 => (∃ ai1 : Nat → Nat → Int, (∀ b, b ≠ a0 → ai1 b = ai b) ∧ tk Z al ai1 az mm sk v0 v1) ∧ r = none) := by
  refine w_in (m := 2) ?_
  show vm_Wp _ _ _ 0 [some (.ref a0), some (.int (vz i1)), none, none] [] _ _
  refine w_kI e123_0 ?_
  refine w_stI (j := 2) (A1 := [some (.ref a0), some (.int (vz i1)), some (.int (vz 0)), none]) e123_1 (fun _ => rfl) (by decide) rfl ?_
  refine w_ldA e123_2 (fun _ => rfl) rfl ?_
  have e1 := tk_i8 hM ha_0
  refine w_len e123_3 e1 (by decide) ?_
  refine w_stI (j := 3) (A1 := [some (.ref a0), some (.int (vz i1)), some (.int (vz 0)), some (.int (vz 8))]) e123_4 (fun _ => rfl) (by decide) rfl ?_
  exact w_sub (A1 := [some (.ref a0), some (.int (vz i1)), some (.int (vz 0)), some (.int (vz 8))]) (And.intro rfl (And.intro rfl (And.intro rfl (And.intro rfl trivial)))) (((k123_L (Z := Z) (al := al) (ai := ai) (az := az) (mm := mm) (sk := sk) (v0 := v0) (a0 := a0) (i1 := i1) hk ha_0 hi_1 _)) vh ai 0 hM (by omega) (fun _ _ => rfl) (Nat.lt_succ_self _))
set_option maxRecDepth 100000 in
set_option maxHeartbeats 4000000 in
theorem k72_L {Z : Nat → Nat → Int} {al : Nat → Nat → Int64} {ai : Nat → Nat → Int} {az : Nat → Nat → Int32} {mm : Nat → Option Nat} {sk : Nat} {v0 : vm_H} (hk : kn Z) {i1 : Int} (hi_1 : 0 ≤ i1 ∧ i1 ≤ 200) {fr : Nat → Bool} {nv : Nat} {R : Nat → Po} {c : Nat} {B : List Nat} {f0 : Po} (hR : rwK fr nv Z al R c) (hB : mbK Z mm B c) (hc : c ≤ 40) (hn8 : nv ≤ 8) (hL : pL Z al 234 f0) (hg : gk nv f0) : ∀ N : Nat, (∀ (vh : vm_H) (Z_ : Nat → Nat → Int) (al_ : Nat → Nat → Int64) (ai_ : Nat → Nat → Int) (sk_ : Nat) (x2 : Int) (x3 : Int), (tk Z_ al_ ai_ az mm sk_ v0 vh) → (kn Z_) → (-1 ≤ x2 ∧ x2 < Z_ 217 0) → (0 ≤ x3 ∧ x3 ≤ i1) → (rdI nv (mbP fr nv R B) (i1).toNat B.length f0 Z_ al_ x2 x3) → (wkF Z Z_ al al_ ai ai_) → ((300 - x3 : Int).toNat < N) → vm_Wp 3 92 72 25 [some (.ref 1), some (.int (vz i1)), some (.int (vz x2)), some (.int (vz x3))] [] vh (vq_P 72 (fun r v1 => ∃ (Z1 : Nat → Nat → Int) (al1 : Nat → Nat → Int64) (ai1 : Nat → Nat → Int) (sk1 : Nat) (q : Int), rdO nv (rdP (mbP fr nv R B) (i1).toNat B.length f0) Z1 al1 q ∧ wkF Z Z1 al al1 ai ai1 ∧ r = some (.int (vz q)) ∧ kn Z1 ∧ tk Z1 al1 ai1 az mm sk1 v0 v1))) := by
  have hB1 := hB.1
  have hB2 := hB.2.1
  intro N
  induction N with
  | zero => exact (by intros; omega)
  | succ N ih =>
    ·
      intro vh Z_ al_ ai_ sk_ x2 x3 hM hk_ hx2 hx3 hi0 hi1 hN
      obtain ⟨f, hLf, hgf, hmf, hr⟩ := hi0
      have hR_ := rwK_wk hR hc hi1
      have hB_ := mbK_wk hB hi1
      have hB3 := hB_.1
      refine w_ldI e72_25 (fun _ => rfl) rfl ?_
      refine w_ldI e72_26 (fun _ => rfl) rfl ?_
      refine w_ic e72_27 (by omega) (by omega) (fun (h20 : i1 < x3) => ?_) (fun (h20 : x3 ≤ i1) => ?_)
      ·
        refine w_kI e72_106 ?_
        exfalso; omega
      ·
        refine w_ldA e72_30 (fun _ => rfl) rfl ?_
        have e21 := tk_main hM
        refine w_get e72_31 e21 rfl ?_
        refine w_ldI e72_34 (fun _ => rfl) rfl ?_
        refine w_ldA e72_35 (fun _ => rfl) rfl ?_
        refine w_get e72_36 e21 rfl ?_
        have e22 := tk_tri hM
        refine w_cv e72_39 (by decide) rfl e22 rfl (Nat.le_of_ble_eq_true rfl) (Nat.le_of_ble_eq_true rfl) (Nat.le_of_ble_eq_true rfl) (by decide) (by decide) (k42 hM hk_ (by omega) (rfl : ty 234 = 1) hB_ hc) (fun o23 v24 hq25 => ?_)
        obtain ⟨rfl, q26, h27, rfl⟩ := hq25
        have hd28 := duK_bd h27 (by omega)
        refine w_stI (j := 2) (A1 := [some (.ref 1), some (.int (vz i1)), some (.int (vz q26)), some (.int (vz x3))]) e72_42 (fun _ => rfl) (by decide) rfl ?_
        refine w_ldI e72_43 (fun _ => rfl) rfl ?_
        refine w_kI e72_44 ?_
        refine w_ic e72_45 (by omega) (by omega) (fun (h29 : q26 ≠ -1) => ?_) (fun (h29 : q26 = -1) => ?_)
        ·
          have hq9 : 0 ≤ q26 := by omega
          obtain ⟨_, hdu, heq⟩ := (du_e h27 hR_ hB_ hn8 hLf hgf (by omega)).resolve_left (fun h9 => by have := h9.1; omega)
          refine w_ldI e72_50 (fun _ => rfl) rfl ?_
          refine w_ldI e72_51 (fun _ => rfl) rfl ?_
          refine w_ic e72_52 (by omega) (by omega) (fun (h30 : x3 = i1) => ?_) (fun (h30 : x3 ≠ i1) => ?_)
          ·
            refine w_kI e72_78 ?_
            exact w_rz e72_79 rfl (by omega) ⟨Z_, al_, ai_, sk_, 0, rdO_f hmf (by omega) hr ((heq _).trans (by rw [show (q26 + 1).toNat = (q26).toNat + 1 by omega, show (i1).toNat - (x3).toNat = 0 by omega]; exact rd_0 hdu)), hi1, rfl, hk_, hM⟩
          ·
            refine w_ldA e72_55 (fun _ => rfl) rfl ?_
            refine w_get e72_56 e21 rfl ?_
            refine w_ldA e72_59 (fun _ => rfl) rfl ?_
            refine w_get e72_60 e21 rfl ?_
            refine w_ldA e72_63 (fun _ => rfl) rfl ?_
            refine w_get e72_64 e21 rfl ?_
            refine w_get e72_67 e22 rfl ?_
            refine w_ldI e72_70 (fun _ => rfl) rfl ?_
            have e31 := tk_mem hM
            have hm32 := mb_lt hB_ (j := (q26).toNat) (by omega)
            have hm33 := mb_q hB_ (j := (q26).toNat) (by omega)
            refine w_qld e72_71 e31 (by decide) (by omega) (by omega) (by decide) hm33 ?_
            have e34 := tk_stp hM
            refine w_cv e72_72 (by decide) rfl e34 rfl (Nat.le_of_ble_eq_true rfl) (Nat.le_of_ble_eq_true rfl) (Nat.le_of_ble_eq_true rfl) (by decide) (by decide) (k32 hM hk_ (rfl : ty 234 = 1) (ty_ri (B.reverse.getD ((q26).toNat) 0) (by omega)) hLf hgf (hR_.1 (B.reverse.getD (q26).toNat 0) (by omega)).1.1 (hR_.1 (B.reverse.getD (q26).toNat 0) (by omega)).1.2 hn8 (rw_p hR_ (by omega)) (rw_e hR_ (by omega)) hdu.2 (by omega)) (fun o35 v36 hq37 => ?_)
            obtain ⟨Z38, al39, sk40, q41, ⟨hb42, ho43⟩, rfl, hk44, hM45⟩ := hq37
            have hm46 : Z38 1 2 = x3 := by rw [ho43.1 1 (by decide) (by decide)]; exact hmf
            have hm47 := congrFun (ho43.1 217 (by decide) (by decide)) 0
            refine w_if e72_75 (by omega) (fun (h48 : q41 ≠ 0) => ?_) (fun (h48 : q41 = 0) => ?_)
            ·
              obtain ⟨_, g9, hst9, hgL, hgg⟩ := ho43.2.2.resolve_left (fun h9 => by have := h9.1; omega)
              refine w_ldA e72_80 (fun _ => rfl) rfl ?_
              refine w_x e72_81 (fun _ => rfl) ?_
              have e49 := tk_main hM45
              refine w_get e72_82 e49 rfl ?_
              refine w_kI e72_85 ?_
              refine w_iadd e72_86 ?_
              refine w_put e72_87 e49 (Nat.le_of_ble_eq_true rfl) rfl (fun v52 b50 h51 => ?_)
              obtain ⟨Z53, hd54, hM55⟩ : ∃ z, z = u2 Z38 1 2 ((Z38 1 2) + 1) ∧ tk z al39 ai_ az mm sk40 v0 v52 := ⟨_, rfl, tk_Zm2 hM45 (by omega) b50 h51⟩
              have hz56 := u2_eq hd54
              have hz57 := congrFun (u2_oth (b := 217) hd54 (by decide)) 0
              have hk58 := kn_u hk44 hd54 (fun h9 => absurd h9 (by decide))
              refine w_ldA e72_90 (fun _ => rfl) rfl ?_
              have e59 := tk_main hM55
              refine w_get e72_91 e59 rfl ?_
              refine w_ldI e72_94 (fun _ => rfl) rfl ?_
              refine w_x e72_95 (fun _ => rfl) ?_
              have e60 := tk_i8 hM55 (rfl : ty 237 = 15)
              refine w_ald e72_96 e60 (by omega) (by omega) (by decide) ?_
              show vm_Wp _ _ _ 97 _ [.int (vz (ai_ 237 (q26).toNat)), .int (vz q26), .ref 237] _ _
              refine w_kI e72_97 ?_
              refine w_iadd e72_98 ?_
              refine w_norm (fun q61 h62 => ?_)
              refine w_ast e72_99 e60 (by omega) (by omega) (by decide) (by decide) (fun v65 b63 h64 => ?_)
              obtain ⟨ai66, hd67, hM68⟩ : ∃ z, z = u2 ai_ 237 (q26).toNat q61 ∧ tk Z53 al39 z az mm sk40 v0 v65 := ⟨_, rfl, tk_I hM55 (rfl : ty 237 = 15) h62 b63 h64⟩
              refine w_iinc (A1 := [some (.ref 1), some (.int (vz i1)), some (.int (vz q26)), some (.int (vz (x3 + 1)))]) e72_100 rfl (by decide) rfl ?_
              refine w_x e72_103 (fun _ => rfl) ?_
              exact w_sub (A1 := [some (.ref 1), some (.int (vz i1)), some (.int (vz q26)), some (.int (vz (x3 + 1)))]) (And.intro rfl (And.intro rfl (And.intro rfl (And.intro rfl trivial)))) ((ih) v65 Z53 al39 ai66 sk40 q26 (x3 + 1) hM68 hk58 (by omega) (by omega) (rdI_s hr hq9 hdu heq hst9 (by omega) (by omega) (pL_cg hgL (by rw [hd54, u2_af (by decide)]) (fun _ _ => ⟨rfl, rfl⟩)) hgg (by omega)) (wkF_i (wkF_m (wkF_s hi1 ho43) hd54) (fun b hb => by rw [hd67, u2_af hb])) (by omega))
            ·
              obtain ⟨_, hno9⟩ := ho43.2.2.resolve_right (fun h9 => by have := h9.1; omega)
              refine w_kI e72_78 ?_
              exact w_rz e72_79 rfl (by omega) ⟨Z38, al39, ai_, sk40, 0, rdO_f (by rw [ho43.1 1 (by decide) (by decide)]; exact hmf) (by omega) hr ((heq _).trans (by rw [show (q26 + 1).toNat = (q26).toNat + 1 by omega]; exact rd_f hdu hno9)), wkF_s hi1 ho43, rfl, hk44, hM45⟩
        ·
          obtain ⟨_, hall⟩ := (du_e h27 hR_ hB_ hn8 hLf hgf (by omega)).resolve_right (fun h9 => by have := h9.1; omega)
          refine w_kI e72_48 ?_
          exact w_rz e72_49 rfl (by omega) ⟨Z_, al_, ai_, sk_, 1, rdO_t hLf hgf hmf (by omega) hr hall, hi1, rfl, hk_, hM⟩
set_option maxRecDepth 100000 in
set_option maxHeartbeats 4000000 in
theorem k72 {Z : Nat → Nat → Int} {al : Nat → Nat → Int64} {ai : Nat → Nat → Int} {az : Nat → Nat → Int32} {mm : Nat → Option Nat} {sk : Nat} {v0 vh : vm_H} (hM : tk Z al ai az mm sk v0 vh) (hk : kn Z) {i1 : Int} (hi_1 : 0 ≤ i1 ∧ i1 ≤ 200) {fr : Nat → Bool} {nv : Nat} {R : Nat → Po} {c : Nat} {B : List Nat} {f0 : Po} (hR : rwK fr nv Z al R c) (hB : mbK Z mm B c) (hc : c ≤ 40) (hn8 : nv ≤ 8) (hL : pL Z al 234 f0) (hg : gk nv f0) : vm_Rp 3 92 72 [.ref 1, .int (vz i1)] vh (fun r v1 => ∃ (Z1 : Nat → Nat → Int) (al1 : Nat → Nat → Int64) (ai1 : Nat → Nat → Int) (sk1 : Nat) (q : Int), rdO nv (rdP (mbP fr nv R B) (i1).toNat B.length f0) Z1 al1 q ∧ wkF Z Z1 al al1 ai ai1 ∧ r = some (.int (vz q)) ∧ kn Z1 ∧ tk Z1 al1 ai1 az mm sk1 v0 v1) := by
  have hB1 := hB.1
  have hB2 := hB.2.1
  refine w_in (m := 2) ?_
  show vm_Wp _ _ _ 0 [some (.ref 1), some (.int (vz i1)), none, none] [] _ _
  refine w_ldA e72_0 (fun _ => rfl) rfl ?_
  refine w_kI e72_1 ?_
  have e1 := tk_main hM
  refine w_put e72_2 e1 (Nat.le_of_ble_eq_true rfl) rfl (fun v4 b2 h3 => ?_)
  obtain ⟨Z5, hd6, hM7⟩ : ∃ z, z = u2 Z 1 2 0 ∧ tk z al ai az mm sk v0 v4 := ⟨_, rfl, tk_Zm2 hM (by omega) b2 h3⟩
  have hz8 := u2_eq hd6
  have hz9 := congrFun (u2_oth (b := 217) hd6 (by decide)) 0
  have hk10 := kn_u hk hd6 (fun h9 => absurd h9 (by decide))
  refine w_ldA e72_5 (fun _ => rfl) rfl ?_
  have e11 := tk_main hM7
  refine w_get e72_6 e11 rfl ?_
  refine w_kI e72_9 ?_
  refine w_cs e72_10 (by decide) (Nat.le_of_ble_eq_true rfl) (Nat.le_of_ble_eq_true rfl) (Nat.le_of_ble_eq_true rfl) (by decide) (by decide) (k123 hM7 hk10 (rfl : ty 237 = 15) (by omega)) (fun o12 v13 hq14 => ?_)
  obtain ⟨⟨ai15, h16, hM17⟩, rfl⟩ := hq14
  have hw0 := wkF_i (wkF_m (wkF_0 (al := al)) hd6) h16
  have hL0 := pL_cg hL (Z1 := Z5) (by rw [hd6, u2_af (by decide)]) (fun _ _ => ⟨rfl, rfl⟩)
  have hm0 := u2_eq hd6
  have hz0 : Z5 217 0 = Z 217 0 := by rw [hw0.1 217 (by decide) (by decide) (by decide)]
  refine w_ldA e72_13 (fun _ => rfl) rfl ?_
  have e18 := tk_main hM17
  refine w_get e72_14 e18 rfl ?_
  have e19 := tk_tri hM17
  refine w_get e72_17 e19 rfl ?_
  refine w_kI e72_20 ?_
  refine w_isub e72_21 ?_
  refine w_stI (j := 2) (A1 := [some (.ref 1), some (.int (vz i1)), some (.int (vz ((Z5 217 0) - 1))), none]) e72_22 (fun _ => rfl) (by decide) rfl ?_
  refine w_kI e72_23 ?_
  refine w_stI (j := 3) (A1 := [some (.ref 1), some (.int (vz i1)), some (.int (vz ((Z5 217 0) - 1))), some (.int (vz 0))]) e72_24 (fun _ => rfl) (by decide) rfl ?_
  exact w_sub (A1 := [some (.ref 1), some (.int (vz i1)), some (.int (vz ((Z5 217 0) - 1))), some (.int (vz 0))]) (And.intro rfl (And.intro rfl (And.intro rfl (And.intro rfl trivial)))) (((k72_L (Z := Z) (al := al) (ai := ai) (az := az) (mm := mm) (sk := sk) (v0 := v0) (i1 := i1) (fr := fr) (nv := nv) (R := R) (c := c) (B := B) (f0 := f0) hk hi_1 hR hB hc hn8 hL hg _)) v13 Z5 al ai15 sk ((Z5 217 0) - 1) 0 hM17 hk10 (by omega) (by omega) (rdI_0 hL0 hg hm0 (by omega)) hw0 (Nat.lt_succ_self _))
