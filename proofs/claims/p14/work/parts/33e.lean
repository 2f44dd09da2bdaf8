set_option maxRecDepth 100000 in
set_option maxHeartbeats 4000000 in
theorem r100_L {sc : Nat → Int} {ai : Nat → Nat → Int} {al : Nat → Nat → Int64} {az : Nat → Nat → Int32} {v0 : vm_H} (hK : tmok ai) {fr : Nat → Bool} {V : Nat → Nat} {nv : Nat} (hv : sc 1 = (nv : Int)) (hvr : vR ai = V) (hfr : frR az ai = fr) (hV : pmV V nv) {c : Nat} {R : Nat → Po} (hR : rwQ V nv ai al R c) (hNn : ∀ r, r < c → plP fr nv (R r) ≠ -1) (hc : c ≤ 40) {s : Nat} (h42 : sc 42 = (c : Int)) (h16q : sc 16 = (s : Int)) (hs : s ≤ 1000) (hG : tbG V nv sc ai al az []) (h14b : 0 ≤ sc 14 ∧ sc 14 < 100) : ∀ N : Nat, (∀ (vh : vm_H) (sc_ : Nat → Int) (ai_ : Nat → Nat → Int) (al_ : Nat → Nat → Int64) (az_ : Nat → Nat → Int32) (x1 : Int) (x2 : Int), (tm sc_ ai_ al_ az_ v0 vh) → (tmok ai_) → (-2147483648 ≤ x1 ∧ x1 < 2147483648) → (0 ≤ x2 ∧ x2 ≤ (c : Int)) → (roI fr V nv (bsP fr nv R c 8 []) R c s sc sc_ ai ai_ al al_ az az_ x2) → (x1 = (c : Int)) → (((c : Int) - x2 : Int).toNat < N) → vm_Wp 6 157 100 21 [some (.ref 238), some (.int (vz x1)), some (.int (vz x2)), none, none] [] vh (vq_P 100 (fun r v1 => ∃ (sc1 : Nat → Int) (ai1 : Nat → Nat → Int) (al1 : Nat → Nat → Int64) (az1 : Nat → Nat → Int32) (q : Int), ((0 ≤ q ∧ q ≤ 3) ∧ roO fr V nv R c s sc sc1 ai ai1 al al1 az az1 q) ∧ r = some (.int (vz q)) ∧ tmok ai1 ∧ tm sc1 ai1 al1 az1 v0 v1))) := by
  intro N
  induction N with
  | zero => exact (by intros; omega)
  | succ N ih =>
    ·
      intro vh sc_ ai_ al_ az_ x1 x2 hM hK_ hx1 hx2 hi0q hi1 hN
      have hi0b := hi0q
      obtain ⟨R1, c1, s1, hTq, hw⟩ := hi0b
      have hvr_ : vR ai_ = V := (aK_vR hTq.2.2.2.2.2.2).trans hvr
      have hfr_ : frR az_ ai_ = fr := (aK_fr hTq.2.2.2.2.2.2).trans hfr
      have hv_ : sc_ 1 = (nv : Int) := by rw [hTq.2.2.2.2.2.1 1 (by omega)]; exact hv
      have h42_ := hTq.1.1.1
      have hc1 := hTq.1.1.2
      have h16_ := hTq.1.2.1.1
      have hs1 := hTq.1.2.1.2
      have hcc := hTq.2.2.1.2
      have hmb := hTq.2.2.1.1
      have hmb1 := hmb.1.1
      have hmb2 := hmb.1.2
      have hVn := hV.1
      refine w_ldI e100_21 (fun _ => rfl) rfl ?_
      refine w_ldI e100_22 (fun _ => rfl) rfl ?_
      refine w_ic e100_23 (by omega) hx1 (fun (h18 : x1 ≤ x2) => ?_) (fun (h18 : x2 < x1) => ?_)
      ·
        refine w_ldA e100_180 (fun _ => rfl) rfl ?_
        have e19 := tm_o hM
        refine w_get e100_181 e19 rfl ?_
        refine w_ldI e100_184 (fun _ => rfl) rfl ?_
        refine w_ic e100_185 (tm_s hM 42) hx1 (fun (h20 : sc_ 42 ≠ x1) => ?_) (fun (h20 : sc_ 42 = x1) => ?_)
        ·
          refine w_kI e100_192 ?_
          exact w_ri e100_193 rfl ⟨sc_, ai_, al_, az_, 3, ⟨by omega, ro_end hTq hw (by omega) (Or.inr ⟨by omega, by omega⟩)⟩, rfl, hK_, hM⟩
        ·
          refine w_kI e100_188 ?_
          refine w_x e100_189 (fun _ => rfl) ?_
          exact w_ri e100_193 rfl ⟨sc_, ai_, al_, az_, 1, ⟨by omega, ro_end hTq hw (by omega) (Or.inl ⟨by omega, by omega⟩)⟩, rfl, hK_, hM⟩
      ·
        refine w_ldA e100_26 (fun _ => rfl) rfl ?_
        refine w_kB e100_27 rfl ?_
        refine w_ldI e100_29 (fun _ => rfl) rfl ?_
        refine w_iadd e100_30 ?_
        have e21 := tm_o hM
        refine w_cv e100_31 (by decide) rfl e21 rfl (Nat.le_of_ble_eq_true rfl) (Nat.le_of_ble_eq_true rfl) (Nat.le_of_ble_eq_true rfl) (by decide) (by decide) (r97 hM hK_ (by omega) hmb (m := (x2).toNat) (by omega)) (fun o22 v23 hq24 => ?_)
        obtain ⟨rfl, q25, h26, rfl⟩ := hq24
        have hb27 := h26.1
        refine w_if e100_34 (by omega) (fun (h28 : q25 ≠ 0) => ?_) (fun (h28 : q25 = 0) => ?_)
        ·
          refine w_iinc (A1 := [some (.ref 238), some (.int (vz x1)), some (.int (vz (x2 + 1))), none, none]) e100_174 rfl (by decide) rfl ?_
          refine w_x e100_177 (fun _ => rfl) ?_
          exact w_sub (A1 := [some (.ref 238), some (.int (vz x1)), some (.int (vz (x2 + 1))), none, none]) (And.intro rfl (And.intro rfl (And.intro rfl trivial))) ((ih) vh sc_ ai_ al_ az_ x1 (x2 + 1) hM hK_ hx1 (by omega) (ro_in hTq hw (by omega) (h26.2.mp (by omega))) hi1 (by omega))
        ·
          refine w_ldA e100_37 (fun _ => rfl) rfl ?_
          refine w_kB e100_38 rfl ?_
          refine w_ldI e100_40 (fun _ => rfl) rfl ?_
          refine w_iadd e100_41 ?_
          refine w_kB e100_42 rfl ?_
          refine w_cv e100_44 (by decide) rfl e21 rfl (Nat.le_of_ble_eq_true rfl) (Nat.le_of_ble_eq_true rfl) (Nat.le_of_ble_eq_true rfl) (by decide) (by decide) (r81 hM hK_ (by omega) (by omega) (V := V) (nv := nv) (l := R1 (x2).toNat) (by rw [show (16 + x2).toNat = 16 + (x2).toNat by omega]; exact (hTq.2.1.1 _ (by omega)).1) (by omega)) (fun o29 v30 hq31 => ?_)
          obtain ⟨⟨al32, ai33, hc34, hK35, hM36⟩, rfl⟩ := hq31
          have hcp : cpQ V nv ai_ ai33 al_ al32 69 (R1 (x2).toNat) := hc34
          have hT2 := rt_cp hTq hK_ hcp
          have hvr2 : vR ai33 = V := (aK_vR hT2.2.2.2.2.2.2).trans hvr
          have hfr2 : frR az_ ai33 = fr := (aK_fr hT2.2.2.2.2.2.2).trans hfr
          refine w_kS e100_47 rfl ?_
          refine w_ldA e100_50 (fun _ => rfl) rfl ?_
          have e37 := tm_o hM36
          refine w_get e100_51 e37 rfl ?_
          refine w_isub e100_54 ?_
          refine w_stI (j := 3) (A1 := [some (.ref 238), some (.int (vz x1)), some (.int (vz x2)), some (.int (vz (1000 - (sc_ 16)))), none]) e100_55 (fun _ => rfl) (by decide) rfl ?_
          refine w_ldA e100_56 (fun _ => rfl) rfl ?_
          refine w_kI e100_57 ?_
          refine w_ldI e100_58 (fun _ => rfl) rfl ?_
          refine w_kS e100_59 rfl ?_
          refine w_ic e100_62 (by omega) (by omega) (fun (h38 : 200 ≤ 1000 - (sc_ 16)) => ?_) (fun (h38 : 1000 - (sc_ 16) < 200) => ?_)
          ·
            refine w_kS e100_69 rfl ?_
            refine w_cv e100_72 (by decide) rfl e37 rfl (Nat.le_of_ble_eq_true rfl) (Nat.le_of_ble_eq_true rfl) (Nat.le_of_ble_eq_true rfl) (by decide) (by decide) (r93 hM36 hK35 (by omega) (by omega) hv_ hvr2 hfr2 hV hT2.2.2.2.1 hcp.2.2 (hTq.2.1.1 (x2).toNat (by omega)).2 (rt_bs hT2) hmb1 hmb2 rfl) (fun o39 v40 hq41 => ?_)
            obtain ⟨sc42, ai43, al44, az45, q46, ho47, rfl, hK48, hM49⟩ := hq41
            have hb50 := ho47.1.1
            have hrd := ho47
            rw [show (200 : Int).toNat = min 200 (1000 - s1) by omega] at hrd
            have hT3 := rt_H hT2 hK35 hrd.2.2.2 hrd.2.2.1
            have h41 := hrd.1.2.2
            have hle := rd_le (S := mbP fr nv R1 (bsP fr nv R c 8 [])) (min 200 (1000 - s1)) (bsP fr nv R c 8 []).length (R1 (x2).toNat)
            have h163 := hT3.1.2.1.1
            refine w_stI (j := 4) (A1 := [some (.ref 238), some (.int (vz x1)), some (.int (vz x2)), some (.int (vz (1000 - (sc_ 16)))), some (.int (vz q46))]) e100_75 (fun _ => rfl) (by decide) rfl ?_
            refine w_ldA e100_77 (fun _ => rfl) rfl ?_
            refine w_x e100_78 (fun _ => rfl) ?_
            have e51 := tm_o hM49
            refine w_get e100_79 e51 rfl ?_
            refine w_ldA e100_82 (fun _ => rfl) rfl ?_
            refine w_get e100_83 e51 rfl ?_
            refine w_iadd e100_86 ?_
            refine w_put e100_87 e51 (Nat.le_of_ble_eq_true rfl) rfl (fun v54 b52 h53 => ?_)
            obtain ⟨sc55, hd57, hM56⟩ : ∃ z, z = u1 sc42 16 ((sc42 16) + (sc42 41)) ∧ tm z ai43 al44 az45 v0 v54 := ⟨_, rfl, tm_ps 16 hM49 (by omega) b52 h53⟩
            have hT4 := rt_16 (s2 := s1 + (rdP (mbP fr nv R1 (bsP fr nv R c 8 [])) (min 200 (1000 - s1)) (bsP fr nv R c 8 []).length (R1 (x2).toNat)).2.1) hT3 hd57 (by omega) (by omega)
            refine w_ldI e100_90 (fun _ => rfl) rfl ?_
            refine w_if e100_92 (by omega) (fun (h58 : q46 ≠ 0) => ?_) (fun (h58 : q46 = 0) => ?_)
            ·
              refine w_ldA e100_97 (fun _ => rfl) rfl ?_
              refine w_kB e100_98 rfl ?_
              have e59 := tm_o hM56
              refine w_cv e100_100 (by decide) rfl e59 rfl (Nat.le_of_ble_eq_true rfl) (Nat.le_of_ble_eq_true rfl) (Nat.le_of_ble_eq_true rfl) (by decide) (by decide) (r83 hM56 hK48 (by omega) (hrd.2.1 (by omega)).1 (hrd.2.1 (by omega)).2) (fun o60 v61 hq62 => ?_)
              obtain ⟨⟨al63, hp64, hM65⟩, rfl⟩ := hq62
              have hpr : prR V nv ai43 al44 al63 69 (prP (rdP (mbP fr nv R1 (bsP fr nv R c 8 [])) (min 200 (1000 - s1)) (bsP fr nv R c 8 []).length (R1 (x2).toNat)).2.2) := hp64
              have hT5 := rt_pr hT4 hK48 hpr
              have hgg : gk nv (prP (rdP (mbP fr nv R1 (bsP fr nv R c 8 [])) (min 200 (1000 - s1)) (bsP fr nv R c 8 []).length (R1 (x2).toNat)).2.2) := gk_pr (hrd.2.1 (by omega)).2
              have hq69 := hpr.2.2
              have hql := hq69.1
              have hrt : (rdP (mbP fr nv R1 (bsP fr nv R c 8 [])) (min 200 (1000 - s1)) (bsP fr nv R c 8 []).length (R1 (x2).toNat)).1 = true := hrd.1.2.1.mp (by omega)
              have h428 := hT5.1.1.1
              have hvr5 : vR ai43 = V := (aK_vR hT5.2.2.2.2.2.2).trans hvr
              have hfr5 : frR az45 ai43 = fr := (aK_fr hT5.2.2.2.2.2.2).trans hfr
              have hv5 : sc55 1 = (nv : Int) := by rw [hT5.2.2.2.2.2.1 1 (by omega)]; exact hv
              refine w_ldA e100_103 (fun _ => rfl) rfl ?_
              have e66 := tm_o hM65
              refine w_get e100_104 e66 rfl ?_
              refine w_kB e100_107 rfl ?_
              have e67 := tm_i hM65 (a := 242) (n := 72) rfl
              refine w_ald e100_109 e67 (by omega) (by omega) (by decide) ?_
              show vm_Wp _ _ _ 110 _ [.int (vz (ai43 242 69))] _ _
              have hk68 := hK48.1 69
              refine w_if e100_110 (tm_r hM65 242 69) (fun (h69 : ai43 242 69 ≤ 0) => ?_) (fun (h69 : 0 < ai43 242 69) => ?_)
              ·
                refine w_iinc (A1 := [some (.ref 238), some (.int (vz x1)), some (.int (vz (x2 + 1))), some (.int (vz (1000 - (sc_ 16)))), some (.int (vz q46))]) e100_174 rfl (by decide) rfl ?_
                refine w_x e100_177 (fun _ => rfl) ?_
                exact w_sub (A1 := [some (.ref 238), some (.int (vz x1)), some (.int (vz (x2 + 1))), none, none]) (And.intro rfl (And.intro rfl (And.intro rfl trivial))) ((ih) v61 sc55 ai43 al63 az45 x1 (x2 + 1) hM65 hK48 hx1 (by omega) (ro_out hT5 hw (by omega) (fun h9 => by have h8 := h26.2.mpr h9; omega) (rs_3 hrt (Or.inl (List.eq_nil_of_length_eq_zero (by omega))))) hi1 (by omega))
              ·
                have hne : prP (rdP (mbP fr nv R1 (bsP fr nv R c 8 [])) (min 200 (1000 - s1)) (bsP fr nv R c 8 []).length (R1 (x2).toNat)).2.2 ≠ [] := fun z => by rw [z] at hql; have h9 : ai43 242 69 = 0 := hql; omega
                refine w_ldA e100_113 (fun _ => rfl) rfl ?_
                refine w_kB e100_114 rfl ?_
                refine w_cv e100_116 (by decide) rfl e66 rfl (Nat.le_of_ble_eq_true rfl) (Nat.le_of_ble_eq_true rfl) (Nat.le_of_ble_eq_true rfl) (by decide) (by decide) (r98 hM65 hK48 (by omega) hV hT5.2.1.1 hc1 h428 hq69 hgg) (fun o70 v71 hq72 => ?_)
                obtain ⟨rfl, q73, h74, rfl⟩ := hq72
                have hb75 := h74.1
                refine w_if e100_119 (by omega) (fun (h76 : q73 ≠ 0) => ?_) (fun (h76 : q73 = 0) => ?_)
                ·
                  refine w_iinc (A1 := [some (.ref 238), some (.int (vz x1)), some (.int (vz (x2 + 1))), some (.int (vz (1000 - (sc_ 16)))), some (.int (vz q46))]) e100_174 rfl (by decide) rfl ?_
                  refine w_x e100_177 (fun _ => rfl) ?_
                  exact w_sub (A1 := [some (.ref 238), some (.int (vz x1)), some (.int (vz (x2 + 1))), none, none]) (And.intro rfl (And.intro rfl (And.intro rfl trivial))) ((ih) v61 sc55 ai43 al63 az45 x1 (x2 + 1) hM65 hK48 hx1 (by omega) (ro_out hT5 hw (by omega) (fun h9 => by have h8 := h26.2.mpr h9; omega) (rs_3 hrt (Or.inr (ir_y h74.2 (by omega))))) hi1 (by omega))
                ·
                  have hnr : ¬ ∃ j, j < c1 ∧ R1 j = prP (rdP (mbP fr nv R1 (bsP fr nv R c 8 [])) (min 200 (1000 - s1)) (bsP fr nv R c 8 []).length (R1 (x2).toNat)).2.2 := ir_n h74.2 (by omega)
                  refine w_ldA e100_122 (fun _ => rfl) rfl ?_
                  refine w_kB e100_123 rfl ?_
                  refine w_cv e100_125 (by decide) rfl e66 rfl (Nat.le_of_ble_eq_true rfl) (Nat.le_of_ble_eq_true rfl) (Nat.le_of_ble_eq_true rfl) (by decide) (by decide) (c86 hM65 hK48 (by omega) (by omega)) (fun o77 v78 hq79 => ?_)
                  obtain ⟨rfl, rfl⟩ := hq79
                  have hp80 := mpf_bd (az45 239) (ai43 240) (fun v => dgf (al63 244) (60 * ((69 : Int))).toNat v (ai43 242 ((69 : Int)).toNat).toNat) (sc55 1).toNat
                  show vm_Wp _ _ _ 128 _ [.int (vz (mpf (az45 239) (ai43 240) (fun v => dgf (al63 244) (60 * ((69 : Int))).toNat v (ai43 242 ((69 : Int)).toNat).toNat) (sc55 1).toNat))] _ _
                  have hmp : mpf (az45 239) (ai43 240) (fun v => dgf (al63 244) (60 * ((69 : Int))).toNat v (ai43 242 ((69 : Int)).toNat).toNat) (sc55 1).toNat = plP fr nv (prP (rdP (mbP fr nv R1 (bsP fr nv R c 8 [])) (min 200 (1000 - s1)) (bsP fr nv R c 8 []).length (R1 (x2).toNat)).2.2) := by rw [re_mp (i1 := (69 : Int)) hq69 hV hvr5 hK48 hv5 rfl, hfr5]
                  refine w_kI e100_128 ?_
                  refine w_ic e100_129 (by omega) (by omega) (fun (h81 : mpf (az45 239) (ai43 240) (fun v => dgf (al63 244) (60 * ((69 : Int))).toNat v (ai43 242 ((69 : Int)).toNat).toNat) (sc55 1).toNat ≠ -1) => ?_) (fun (h81 : mpf (az45 239) (ai43 240) (fun v => dgf (al63 244) (60 * ((69 : Int))).toNat v (ai43 242 ((69 : Int)).toNat).toNat) (sc55 1).toNat = -1) => ?_)
                  ·
                    refine w_ldA e100_140 (fun _ => rfl) rfl ?_
                    refine w_get e100_141 e66 rfl ?_
                    refine w_kB e100_144 rfl ?_
                    refine w_ic e100_146 (tm_s hM65 42) (by omega) (fun (h82 : sc55 42 ≠ 40) => ?_) (fun (h82 : sc55 42 = 40) => ?_)
                    ·
                      refine w_ldA e100_151 (fun _ => rfl) rfl ?_
                      refine w_kB e100_152 rfl ?_
                      refine w_kB e100_154 rfl ?_
                      refine w_ldA e100_156 (fun _ => rfl) rfl ?_
                      refine w_get e100_157 e66 rfl ?_
                      refine w_iadd e100_160 ?_
                      refine w_cv e100_161 (by decide) rfl e66 rfl (Nat.le_of_ble_eq_true rfl) (Nat.le_of_ble_eq_true rfl) (Nat.le_of_ble_eq_true rfl) (by decide) (by decide) (r81 hM65 hK48 (by omega) (by omega) hq69 (by omega)) (fun o83 v84 hq85 => ?_)
                      obtain ⟨⟨al86, ai87, hc88, hK89, hM90⟩, rfl⟩ := hq85
                      have hcn : cpQ V nv ai43 ai87 al63 al86 (16 + c1) (prP (rdP (mbP fr nv R1 (bsP fr nv R c 8 [])) (min 200 (1000 - s1)) (bsP fr nv R c 8 []).length (R1 (x2).toNat)).2.2) := by have h9 := hc88; rw [show (16 + (sc55 42)).toNat = 16 + c1 by omega] at h9; exact h9
                      refine w_ldA e100_164 (fun _ => rfl) rfl ?_
                      refine w_x e100_165 (fun _ => rfl) ?_
                      have e91 := tm_o hM90
                      refine w_get e100_166 e91 rfl ?_
                      refine w_kI e100_169 ?_
                      refine w_iadd e100_170 ?_
                      refine w_put e100_171 e91 (Nat.le_of_ble_eq_true rfl) rfl (fun v94 b92 h93 => ?_)
                      obtain ⟨sc95, hd97, hM96⟩ : ∃ z, z = u1 sc55 42 ((sc55 42) + 1) ∧ tm z ai87 al86 az45 v0 v94 := ⟨_, rfl, tm_ps 42 hM90 (by omega) b92 h93⟩
                      refine w_iinc (A1 := [some (.ref 238), some (.int (vz x1)), some (.int (vz (x2 + 1))), some (.int (vz (1000 - (sc_ 16)))), some (.int (vz q46))]) e100_174 rfl (by decide) rfl ?_
                      refine w_x e100_177 (fun _ => rfl) ?_
                      exact w_sub (A1 := [some (.ref 238), some (.int (vz x1)), some (.int (vz (x2 + 1))), none, none]) (And.intro rfl (And.intro rfl (And.intro rfl trivial))) ((ih) v94 sc95 ai87 al86 az45 x1 (x2 + 1) hM96 hK89 hx1 (by omega) (ro_out (rt_new hT5 hK48 hcn hgg (by omega) (by omega) hd97 (by omega)) hw (by omega) (fun h9 => by have h8 := h26.2.mpr h9; omega) (rs_3x hrt hne hnr (by omega) (by omega))) hi1 (by omega))
                    ·
                      refine w_kI e100_149 ?_
                      exact w_ri e100_150 rfl ⟨sc55, ai43, al63, az45, 2, ⟨by omega, ro_ret hT5 hw (by omega) (fun h9 => by have h8 := h26.2.mpr h9; omega) (rs_2x hrt hne hnr (by omega) (by omega)) (by decide)⟩, rfl, hK48, hM65⟩
                  ·
                    refine w_ldA e100_132 (fun _ => rfl) rfl ?_
                    refine w_kB e100_133 rfl ?_
                    refine w_cv e100_135 (by decide) rfl e66 rfl (Nat.le_of_ble_eq_true rfl) (Nat.le_of_ble_eq_true rfl) (Nat.le_of_ble_eq_true rfl) (by decide) (by decide) (r99 hM65 hK48 (by omega) hq69 (by decide)) (fun o98 v99 hq100 => ?_)
                    obtain ⟨⟨sc101, ai102, al103, ⟨hc104, hd105⟩, hK106, hM107⟩, rfl⟩ := hq100
                    refine w_kI e100_138 ?_
                    exact w_ri e100_139 rfl ⟨sc101, ai102, al103, az45, 0, ⟨by omega, ro_ret (rt_cn hT5 hK48 hc104 hgg hd105) hw (by omega) (fun h9 => by have h8 := h26.2.mpr h9; omega) (rs_0x hrt hne hnr (by omega)) (by decide)⟩, rfl, hK106, hM107⟩
            ·
              refine w_kI e100_95 ?_
              exact w_ri e100_96 rfl ⟨sc55, ai43, al44, az45, 2, ⟨by omega, ro_ret hT4 hw (by omega) (fun h9 => by have h8 := h26.2.mpr h9; omega) (rs_2 (rd_no1 hrd (by omega))) (by decide)⟩, rfl, hK48, hM56⟩
          ·
            refine w_ldI e100_65 (fun _ => rfl) rfl ?_
            refine w_x e100_66 (fun _ => rfl) ?_
            refine w_cv e100_72 (by decide) rfl e37 rfl (Nat.le_of_ble_eq_true rfl) (Nat.le_of_ble_eq_true rfl) (Nat.le_of_ble_eq_true rfl) (by decide) (by decide) (r93 hM36 hK35 (by omega) (by omega) hv_ hvr2 hfr2 hV hT2.2.2.2.1 hcp.2.2 (hTq.2.1.1 (x2).toNat (by omega)).2 (rt_bs hT2) hmb1 hmb2 rfl) (fun o108 v109 hq110 => ?_)
            obtain ⟨sc111, ai112, al113, az114, q115, ho116, rfl, hK117, hM118⟩ := hq110
            have hb119 := ho116.1.1
            have hrd := ho116
            rw [show (1000 - (sc_ 16) : Int).toNat = min 200 (1000 - s1) by omega] at hrd
            have hT3 := rt_H hT2 hK35 hrd.2.2.2 hrd.2.2.1
            have h41 := hrd.1.2.2
            have hle := rd_le (S := mbP fr nv R1 (bsP fr nv R c 8 [])) (min 200 (1000 - s1)) (bsP fr nv R c 8 []).length (R1 (x2).toNat)
            have h163 := hT3.1.2.1.1
            refine w_stI (j := 4) (A1 := [some (.ref 238), some (.int (vz x1)), some (.int (vz x2)), some (.int (vz (1000 - (sc_ 16)))), some (.int (vz q115))]) e100_75 (fun _ => rfl) (by decide) rfl ?_
            refine w_ldA e100_77 (fun _ => rfl) rfl ?_
            refine w_x e100_78 (fun _ => rfl) ?_
            have e120 := tm_o hM118
            refine w_get e100_79 e120 rfl ?_
            refine w_ldA e100_82 (fun _ => rfl) rfl ?_
            refine w_get e100_83 e120 rfl ?_
            refine w_iadd e100_86 ?_
            refine w_put e100_87 e120 (Nat.le_of_ble_eq_true rfl) rfl (fun v123 b121 h122 => ?_)
            obtain ⟨sc124, hd126, hM125⟩ : ∃ z, z = u1 sc111 16 ((sc111 16) + (sc111 41)) ∧ tm z ai112 al113 az114 v0 v123 := ⟨_, rfl, tm_ps 16 hM118 (by omega) b121 h122⟩
            have hT4 := rt_16 (s2 := s1 + (rdP (mbP fr nv R1 (bsP fr nv R c 8 [])) (min 200 (1000 - s1)) (bsP fr nv R c 8 []).length (R1 (x2).toNat)).2.1) hT3 hd126 (by omega) (by omega)
            refine w_ldI e100_90 (fun _ => rfl) rfl ?_
            refine w_if e100_92 (by omega) (fun (h127 : q115 ≠ 0) => ?_) (fun (h127 : q115 = 0) => ?_)
            ·
              refine w_ldA e100_97 (fun _ => rfl) rfl ?_
              refine w_kB e100_98 rfl ?_
              have e128 := tm_o hM125
              refine w_cv e100_100 (by decide) rfl e128 rfl (Nat.le_of_ble_eq_true rfl) (Nat.le_of_ble_eq_true rfl) (Nat.le_of_ble_eq_true rfl) (by decide) (by decide) (r83 hM125 hK117 (by omega) (hrd.2.1 (by omega)).1 (hrd.2.1 (by omega)).2) (fun o129 v130 hq131 => ?_)
              obtain ⟨⟨al132, hp133, hM134⟩, rfl⟩ := hq131
              have hpr : prR V nv ai112 al113 al132 69 (prP (rdP (mbP fr nv R1 (bsP fr nv R c 8 [])) (min 200 (1000 - s1)) (bsP fr nv R c 8 []).length (R1 (x2).toNat)).2.2) := hp133
              have hT5 := rt_pr hT4 hK117 hpr
              have hgg : gk nv (prP (rdP (mbP fr nv R1 (bsP fr nv R c 8 [])) (min 200 (1000 - s1)) (bsP fr nv R c 8 []).length (R1 (x2).toNat)).2.2) := gk_pr (hrd.2.1 (by omega)).2
              have hq69 := hpr.2.2
              have hql := hq69.1
              have hrt : (rdP (mbP fr nv R1 (bsP fr nv R c 8 [])) (min 200 (1000 - s1)) (bsP fr nv R c 8 []).length (R1 (x2).toNat)).1 = true := hrd.1.2.1.mp (by omega)
              have h428 := hT5.1.1.1
              have hvr5 : vR ai112 = V := (aK_vR hT5.2.2.2.2.2.2).trans hvr
              have hfr5 : frR az114 ai112 = fr := (aK_fr hT5.2.2.2.2.2.2).trans hfr
              have hv5 : sc124 1 = (nv : Int) := by rw [hT5.2.2.2.2.2.1 1 (by omega)]; exact hv
              refine w_ldA e100_103 (fun _ => rfl) rfl ?_
              have e135 := tm_o hM134
              refine w_get e100_104 e135 rfl ?_
              refine w_kB e100_107 rfl ?_
              have e136 := tm_i hM134 (a := 242) (n := 72) rfl
              refine w_ald e100_109 e136 (by omega) (by omega) (by decide) ?_
              show vm_Wp _ _ _ 110 _ [.int (vz (ai112 242 69))] _ _
              have hk137 := hK117.1 69
              refine w_if e100_110 (tm_r hM134 242 69) (fun (h138 : ai112 242 69 ≤ 0) => ?_) (fun (h138 : 0 < ai112 242 69) => ?_)
              ·
                refine w_iinc (A1 := [some (.ref 238), some (.int (vz x1)), some (.int (vz (x2 + 1))), some (.int (vz (1000 - (sc_ 16)))), some (.int (vz q115))]) e100_174 rfl (by decide) rfl ?_
                refine w_x e100_177 (fun _ => rfl) ?_
                exact w_sub (A1 := [some (.ref 238), some (.int (vz x1)), some (.int (vz (x2 + 1))), none, none]) (And.intro rfl (And.intro rfl (And.intro rfl trivial))) ((ih) v130 sc124 ai112 al132 az114 x1 (x2 + 1) hM134 hK117 hx1 (by omega) (ro_out hT5 hw (by omega) (fun h9 => by have h8 := h26.2.mpr h9; omega) (rs_3 hrt (Or.inl (List.eq_nil_of_length_eq_zero (by omega))))) hi1 (by omega))
              ·
                have hne : prP (rdP (mbP fr nv R1 (bsP fr nv R c 8 [])) (min 200 (1000 - s1)) (bsP fr nv R c 8 []).length (R1 (x2).toNat)).2.2 ≠ [] := fun z => by rw [z] at hql; have h9 : ai112 242 69 = 0 := hql; omega
                refine w_ldA e100_113 (fun _ => rfl) rfl ?_
                refine w_kB e100_114 rfl ?_
                refine w_cv e100_116 (by decide) rfl e135 rfl (Nat.le_of_ble_eq_true rfl) (Nat.le_of_ble_eq_true rfl) (Nat.le_of_ble_eq_true rfl) (by decide) (by decide) (r98 hM134 hK117 (by omega) hV hT5.2.1.1 hc1 h428 hq69 hgg) (fun o139 v140 hq141 => ?_)
                obtain ⟨rfl, q142, h143, rfl⟩ := hq141
                have hb144 := h143.1
                refine w_if e100_119 (by omega) (fun (h145 : q142 ≠ 0) => ?_) (fun (h145 : q142 = 0) => ?_)
                ·
                  refine w_iinc (A1 := [some (.ref 238), some (.int (vz x1)), some (.int (vz (x2 + 1))), some (.int (vz (1000 - (sc_ 16)))), some (.int (vz q115))]) e100_174 rfl (by decide) rfl ?_
                  refine w_x e100_177 (fun _ => rfl) ?_
                  exact w_sub (A1 := [some (.ref 238), some (.int (vz x1)), some (.int (vz (x2 + 1))), none, none]) (And.intro rfl (And.intro rfl (And.intro rfl trivial))) ((ih) v130 sc124 ai112 al132 az114 x1 (x2 + 1) hM134 hK117 hx1 (by omega) (ro_out hT5 hw (by omega) (fun h9 => by have h8 := h26.2.mpr h9; omega) (rs_3 hrt (Or.inr (ir_y h143.2 (by omega))))) hi1 (by omega))
                ·
                  have hnr : ¬ ∃ j, j < c1 ∧ R1 j = prP (rdP (mbP fr nv R1 (bsP fr nv R c 8 [])) (min 200 (1000 - s1)) (bsP fr nv R c 8 []).length (R1 (x2).toNat)).2.2 := ir_n h143.2 (by omega)
                  refine w_ldA e100_122 (fun _ => rfl) rfl ?_
                  refine w_kB e100_123 rfl ?_
                  refine w_cv e100_125 (by decide) rfl e135 rfl (Nat.le_of_ble_eq_true rfl) (Nat.le_of_ble_eq_true rfl) (Nat.le_of_ble_eq_true rfl) (by decide) (by decide) (c86 hM134 hK117 (by omega) (by omega)) (fun o146 v147 hq148 => ?_)
                  obtain ⟨rfl, rfl⟩ := hq148
                  have hp149 := mpf_bd (az114 239) (ai112 240) (fun v => dgf (al132 244) (60 * ((69 : Int))).toNat v (ai112 242 ((69 : Int)).toNat).toNat) (sc124 1).toNat
                  show vm_Wp _ _ _ 128 _ [.int (vz (mpf (az114 239) (ai112 240) (fun v => dgf (al132 244) (60 * ((69 : Int))).toNat v (ai112 242 ((69 : Int)).toNat).toNat) (sc124 1).toNat))] _ _
                  have hmp : mpf (az114 239) (ai112 240) (fun v => dgf (al132 244) (60 * ((69 : Int))).toNat v (ai112 242 ((69 : Int)).toNat).toNat) (sc124 1).toNat = plP fr nv (prP (rdP (mbP fr nv R1 (bsP fr nv R c 8 [])) (min 200 (1000 - s1)) (bsP fr nv R c 8 []).length (R1 (x2).toNat)).2.2) := by rw [re_mp (i1 := (69 : Int)) hq69 hV hvr5 hK117 hv5 rfl, hfr5]
                  refine w_kI e100_128 ?_
                  refine w_ic e100_129 (by omega) (by omega) (fun (h150 : mpf (az114 239) (ai112 240) (fun v => dgf (al132 244) (60 * ((69 : Int))).toNat v (ai112 242 ((69 : Int)).toNat).toNat) (sc124 1).toNat ≠ -1) => ?_) (fun (h150 : mpf (az114 239) (ai112 240) (fun v => dgf (al132 244) (60 * ((69 : Int))).toNat v (ai112 242 ((69 : Int)).toNat).toNat) (sc124 1).toNat = -1) => ?_)
                  ·
                    refine w_ldA e100_140 (fun _ => rfl) rfl ?_
                    refine w_get e100_141 e135 rfl ?_
                    refine w_kB e100_144 rfl ?_
                    refine w_ic e100_146 (tm_s hM134 42) (by omega) (fun (h151 : sc124 42 ≠ 40) => ?_) (fun (h151 : sc124 42 = 40) => ?_)
                    ·
                      refine w_ldA e100_151 (fun _ => rfl) rfl ?_
                      refine w_kB e100_152 rfl ?_
                      refine w_kB e100_154 rfl ?_
                      refine w_ldA e100_156 (fun _ => rfl) rfl ?_
                      refine w_get e100_157 e135 rfl ?_
                      refine w_iadd e100_160 ?_
                      refine w_cv e100_161 (by decide) rfl e135 rfl (Nat.le_of_ble_eq_true rfl) (Nat.le_of_ble_eq_true rfl) (Nat.le_of_ble_eq_true rfl) (by decide) (by decide) (r81 hM134 hK117 (by omega) (by omega) hq69 (by omega)) (fun o152 v153 hq154 => ?_)
                      obtain ⟨⟨al155, ai156, hc157, hK158, hM159⟩, rfl⟩ := hq154
                      have hcn : cpQ V nv ai112 ai156 al132 al155 (16 + c1) (prP (rdP (mbP fr nv R1 (bsP fr nv R c 8 [])) (min 200 (1000 - s1)) (bsP fr nv R c 8 []).length (R1 (x2).toNat)).2.2) := by have h9 := hc157; rw [show (16 + (sc124 42)).toNat = 16 + c1 by omega] at h9; exact h9
                      refine w_ldA e100_164 (fun _ => rfl) rfl ?_
                      refine w_x e100_165 (fun _ => rfl) ?_
                      have e160 := tm_o hM159
                      refine w_get e100_166 e160 rfl ?_
                      refine w_kI e100_169 ?_
                      refine w_iadd e100_170 ?_
                      refine w_put e100_171 e160 (Nat.le_of_ble_eq_true rfl) rfl (fun v163 b161 h162 => ?_)
                      obtain ⟨sc164, hd166, hM165⟩ : ∃ z, z = u1 sc124 42 ((sc124 42) + 1) ∧ tm z ai156 al155 az114 v0 v163 := ⟨_, rfl, tm_ps 42 hM159 (by omega) b161 h162⟩
                      refine w_iinc (A1 := [some (.ref 238), some (.int (vz x1)), some (.int (vz (x2 + 1))), some (.int (vz (1000 - (sc_ 16)))), some (.int (vz q115))]) e100_174 rfl (by decide) rfl ?_
                      refine w_x e100_177 (fun _ => rfl) ?_
                      exact w_sub (A1 := [some (.ref 238), some (.int (vz x1)), some (.int (vz (x2 + 1))), none, none]) (And.intro rfl (And.intro rfl (And.intro rfl trivial))) ((ih) v163 sc164 ai156 al155 az114 x1 (x2 + 1) hM165 hK158 hx1 (by omega) (ro_out (rt_new hT5 hK117 hcn hgg (by omega) (by omega) hd166 (by omega)) hw (by omega) (fun h9 => by have h8 := h26.2.mpr h9; omega) (rs_3x hrt hne hnr (by omega) (by omega))) hi1 (by omega))
                    ·
                      refine w_kI e100_149 ?_
                      exact w_ri e100_150 rfl ⟨sc124, ai112, al132, az114, 2, ⟨by omega, ro_ret hT5 hw (by omega) (fun h9 => by have h8 := h26.2.mpr h9; omega) (rs_2x hrt hne hnr (by omega) (by omega)) (by decide)⟩, rfl, hK117, hM134⟩
                  ·
                    refine w_ldA e100_132 (fun _ => rfl) rfl ?_
                    refine w_kB e100_133 rfl ?_
                    refine w_cv e100_135 (by decide) rfl e135 rfl (Nat.le_of_ble_eq_true rfl) (Nat.le_of_ble_eq_true rfl) (Nat.le_of_ble_eq_true rfl) (by decide) (by decide) (r99 hM134 hK117 (by omega) hq69 (by decide)) (fun o167 v168 hq169 => ?_)
                    obtain ⟨⟨sc170, ai171, al172, ⟨hc173, hd174⟩, hK175, hM176⟩, rfl⟩ := hq169
                    refine w_kI e100_138 ?_
                    exact w_ri e100_139 rfl ⟨sc170, ai171, al172, az114, 0, ⟨by omega, ro_ret (rt_cn hT5 hK117 hc173 hgg hd174) hw (by omega) (fun h9 => by have h8 := h26.2.mpr h9; omega) (rs_0x hrt hne hnr (by omega)) (by decide)⟩, rfl, hK175, hM176⟩
            ·
              refine w_kI e100_95 ?_
              exact w_ri e100_96 rfl ⟨sc124, ai112, al113, az114, 2, ⟨by omega, ro_ret hT4 hw (by omega) (fun h9 => by have h8 := h26.2.mpr h9; omega) (rs_2 (rd_no1 hrd (by omega))) (by decide)⟩, rfl, hK117, hM125⟩
set_option maxRecDepth 100000 in
set_option maxHeartbeats 4000000 in
theorem r100 {sc : Nat → Int} {ai : Nat → Nat → Int} {al : Nat → Nat → Int64} {az : Nat → Nat → Int32} {v0 vh : vm_H} (hM : tm sc ai al az v0 vh) (hK : tmok ai) {fr : Nat → Bool} {V : Nat → Nat} {nv : Nat} (hv : sc 1 = (nv : Int)) (hvr : vR ai = V) (hfr : frR az ai = fr) (hV : pmV V nv) {c : Nat} {R : Nat → Po} (hR : rwQ V nv ai al R c) (hNn : ∀ r, r < c → plP fr nv (R r) ≠ -1) (hc : c ≤ 40) {s : Nat} (h42 : sc 42 = (c : Int)) (h16q : sc 16 = (s : Int)) (hs : s ≤ 1000) (hG : tbG V nv sc ai al az []) (h14b : 0 ≤ sc 14 ∧ sc 14 < 100) : vm_Rp 6 157 100 [.ref 238] vh (fun r v1 => ∃ (sc1 : Nat → Int) (ai1 : Nat → Nat → Int) (al1 : Nat → Nat → Int64) (az1 : Nat → Nat → Int32) (q : Int), ((0 ≤ q ∧ q ≤ 3) ∧ roO fr V nv R c s sc sc1 ai ai1 al al1 az az1 q) ∧ r = some (.int (vz q)) ∧ tmok ai1 ∧ tm sc1 ai1 al1 az1 v0 v1) := by
  refine w_in (m := 4) ?_
  show vm_Wp _ _ _ 0 [some (.ref 238), none, none, none, none] [] _ _
  refine w_ldA e100_0 (fun _ => rfl) rfl ?_
  refine w_x e100_1 (fun _ => rfl) ?_
  have e1 := tm_o hM
  refine w_get e100_2 e1 rfl ?_
  refine w_kI e100_5 ?_
  refine w_iadd e100_6 ?_
  refine w_put e100_7 e1 (Nat.le_of_ble_eq_true rfl) rfl (fun v4 b2 h3 => ?_)
  obtain ⟨sc5, hd7, hM6⟩ : ∃ z, z = u1 sc 14 ((sc 14) + 1) ∧ tm z ai al az v0 v4 := ⟨_, rfl, tm_ps 14 hM (by omega) b2 h3⟩
  have hs14 : sc5 42 = (c : Int) := by rw [hd7, u1_o (by decide)]; exact h42
  refine w_ldA e100_10 (fun _ => rfl) rfl ?_
  have e8 := tm_o hM6
  refine w_cv e100_11 (by decide) rfl e8 rfl (Nat.le_of_ble_eq_true rfl) (Nat.le_of_ble_eq_true rfl) (Nat.le_of_ble_eq_true rfl) (by decide) (by decide) (r96 hM6 hK (by rw [hd7, u1_o (by decide)]; exact hv) hvr hfr hV hR hNn hc hs14) (fun o9 v10 hq11 => ?_)
  obtain ⟨⟨sc12, ai13, ho14, hK15, hM16⟩, rfl⟩ := hq11
  have hT0 := rt_0 hR hNn hc h42 h16q hs hG hd7 rfl ho14
  have hs42 := hT0.1.1.1
  refine w_ldA e100_14 (fun _ => rfl) rfl ?_
  have e17 := tm_o hM16
  refine w_get e100_15 e17 rfl ?_
  refine w_stI (j := 1) (A1 := [some (.ref 238), some (.int (vz (sc12 42))), none, none, none]) e100_18 (fun _ => rfl) (by decide) rfl ?_
  refine w_kI e100_19 ?_
  refine w_stI (j := 2) (A1 := [some (.ref 238), some (.int (vz (sc12 42))), some (.int (vz 0)), none, none]) e100_20 (fun _ => rfl) (by decide) rfl ?_
  exact w_sub (A1 := [some (.ref 238), some (.int (vz (sc12 42))), some (.int (vz 0)), none, none]) (And.intro rfl (And.intro rfl (And.intro rfl trivial))) (((r100_L (sc := sc) (ai := ai) (al := al) (az := az) (v0 := v0) (fr := fr) (V := V) (nv := nv) (c := c) (R := R) (s := s) hK hv hvr hfr hV hR hNn hc h42 h16q hs hG h14b _)) v10 sc12 ai13 al az (sc12 42) 0 hM16 hK15 (tm_s hM16 42) (by omega) ⟨R, c, s, hT0, rfl⟩ (by omega) (Nat.lt_succ_self _))
