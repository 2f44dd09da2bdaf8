set_option maxRecDepth 100000 in
set_option maxHeartbeats 4000000 in
theorem k49_L {Z : Nat → Nat → Int} {al : Nat → Nat → Int64} {ai : Nat → Nat → Int} {az : Nat → Nat → Int32} {mm : Nat → Option Nat} {sk : Nat} {v0 : vm_H} (hk : kn Z) {fr : Nat → Bool} {nv n : Nat} {U : Nat → Po} (hU : usK nv n U Z al) (hn16 : n ≤ 16) (h10 : Z 1 0 = (n : Int)) (hn8 : nv ≤ 8) (ez : Z 2 0 = (nv : Int)) (hv : ∀ j, 0 ≤ ai 5 j ∧ ai 5 j < 8) (hfr : frK az ai = fr) : ∀ N : Nat, (∀ (vh : vm_H) (Z_ : Nat → Nat → Int) (al_ : Nat → Nat → Int64) (ai_ : Nat → Nat → Int) (mm_ : Nat → Option Nat) (sk_ : Nat) (x1 : Int), (tk Z_ al_ ai_ az mm_ sk_ v0 vh) → (kn Z_) → (0 ≤ x1 ∧ x1 ≤ 3) → (dcI fr nv (thP U (hyK az) n).1 (thP U (hyK az) n).2 Z Z_ al al_ ai ai_ mm_ x1) → ((thP U (hyK az) n).2 ≠ 0) → (Z 217 0 ≤ 0) → ((13 - Z_ 1 3 : Int).toNat < N) → vm_Wp 6 160 49 62 [some (.ref 1), some (.int (vz x1))] [] vh (vq_P 49 (fun r v1 => ∃ (Z1 : Nat → Nat → Int) (al1 : Nat → Nat → Int64) (ai1 : Nat → Nat → Int) (mm1 : Nat → Option Nat) (sk1 : Nat), ((((thP U (hyK az) n)).2 = 0 ∧ r = some (.int (vz (-1))) ∧ Z1 = Z ∧ al1 = al) ∨ (((thP U (hyK az) n)).2 ≠ 0 ∧ 0 < Z 217 0 ∧ Z1 = u2 Z 227 0 0 ∧ al1 = al ∧ ai1 = ai ∧ mm1 = mm ∧ r = some (.int (vz 1))) ∨ (((thP U (hyK az) n)).2 ≠ 0 ∧ Z 217 0 ≤ 0 ∧ deO fr nv (deP fr nv ((thP U (hyK az) n)).1 ((thP U (hyK az) n)).2) Z Z1 al al1 ai ai1 mm1 ∧ r = some (.int (vz (deP fr nv ((thP U (hyK az) n)).1 ((thP U (hyK az) n)).2).1.1)))) ∧ kn Z1 ∧ tk Z1 al1 ai1 az mm1 sk1 v0 v1))) := by
  intro N
  induction N with
  | zero => exact (by intros; omega)
  | succ N ih =>
    ·
      intro vh Z_ al_ ai_ mm_ sk_ x1 hM hk_ hx1 hi0 hi1 hi2 hN
      obtain ⟨t, k, hx9, ⟨hxr, hno⟩, hS, he, hF⟩ := hi0
      have hne := hi1
      have hsz := hi2
      have hk9 : Z_ 1 3 = (k : Int) := hS.1.2.2.1
      have hk12 : k ≤ 12 := hS.1.2.2.2
      have hai : ai_ 5 = ai 5 := hF.2.2.2 5 (by decide)
      have hv_ : ∀ j, 0 ≤ ai_ 5 j ∧ ai_ 5 j < 8 := by rw [hai]; exact hv
      have hfr_ : frK az ai_ = fr := (frK_cg hai).trans hfr
      refine w_ldI e49_62 (fun _ => rfl) rfl ?_
      refine w_kI e49_63 ?_
      refine w_ic e49_64 (by omega) (by omega) (fun (h67 : x1 ≠ 3) => ?_) (fun (h67 : x1 = 3) => ?_)
      ·
        refine w_ldI e49_94 (fun _ => rfl) rfl ?_
        refine w_kI e49_95 ?_
        refine w_ic e49_96 (by omega) (by omega) (fun (h68 : x1 = 1) => ?_) (fun (h68 : x1 ≠ 1) => ?_)
        ·
          refine w_ldI e49_107 (fun _ => rfl) rfl ?_
          refine w_kI e49_108 ?_
          refine w_ic e49_109 (by omega) (by omega) (fun (h69 : x1 ≠ 3) => ?_) (fun (h69 : x1 = 3) => ?_)
          ·
            refine w_ldI e49_116 (fun _ => rfl) rfl ?_
            exact w_ri e49_117 rfl ⟨Z_, al_, ai_, mm_, sk_, Or.inr (Or.inr ⟨hne, hsz, by have h9 := de_e (v := x1) hS hno he hF hx9 (Or.inl ⟨by omega, rfl⟩) (by omega); exact ⟨h9.1, by rw [h9.2]⟩⟩), hk_, hM⟩
          ·
            refine w_kI e49_112 ?_
            refine w_x e49_113 (fun _ => rfl) ?_
            exact w_ri e49_117 rfl ⟨Z_, al_, ai_, mm_, sk_, Or.inr (Or.inr ⟨hne, hsz, by have h9 := de_e (v := 2) hS hno he hF hx9 (Or.inl ⟨by omega, rfl⟩) (by omega); exact ⟨h9.1, by rw [h9.2]⟩⟩), hk_, hM⟩
        ·
          refine w_ldA e49_99 (fun _ => rfl) rfl ?_
          have e70 := tk_main hM
          refine w_get e49_100 e70 rfl ?_
          refine w_kI e49_103 ?_
          have e71 := tk_tri hM
          refine w_put e49_104 e71 (Nat.le_of_ble_eq_true rfl) rfl (fun v74 b72 h73 => ?_)
          obtain ⟨Z75, hd76, hM77⟩ : ∃ z, z = u2 Z_ 217 0 0 ∧ tk z al_ ai_ az mm_ sk_ v0 v74 := ⟨_, rfl, tk_Zt hM (by omega) b72 h73⟩
          have hk78 := kn_u hk_ hd76 (fun h9 => absurd h9 (by decide))
          refine w_ldI e49_107 (fun _ => rfl) rfl ?_
          refine w_kI e49_108 ?_
          refine w_ic e49_109 (by omega) (by omega) (fun (h79 : x1 ≠ 3) => ?_) (fun (h79 : x1 = 3) => ?_)
          ·
            refine w_ldI e49_116 (fun _ => rfl) rfl ?_
            exact w_ri e49_117 rfl ⟨Z75, al_, ai_, mm_, sk_, Or.inr (Or.inr ⟨hne, hsz, by have h9 := de_e (v := x1) hS hno he hF hx9 (Or.inr ⟨by omega, hd76⟩) (by omega); exact ⟨h9.1, by rw [h9.2]⟩⟩), hk78, hM77⟩
          ·
            refine w_kI e49_112 ?_
            refine w_x e49_113 (fun _ => rfl) ?_
            exact w_ri e49_117 rfl ⟨Z75, al_, ai_, mm_, sk_, Or.inr (Or.inr ⟨hne, hsz, by have h9 := de_e (v := 2) hS hno he hF hx9 (Or.inr ⟨by omega, hd76⟩) (by omega); exact ⟨h9.1, by rw [h9.2]⟩⟩), hk78, hM77⟩
      ·
        refine w_ldA e49_67 (fun _ => rfl) rfl ?_
        have e80 := tk_main hM
        refine w_get e49_68 e80 rfl ?_
        refine w_kB e49_71 rfl ?_
        refine w_ic e49_73 (tk_r hM 1 3) (by omega) (fun (h81 : 12 ≤ Z_ 1 3) => ?_) (fun (h81 : Z_ 1 3 < 12) => ?_)
        ·
          refine w_ldI e49_94 (fun _ => rfl) rfl ?_
          refine w_kI e49_95 ?_
          refine w_ic e49_96 (by omega) (by omega) (fun (h82 : x1 = 1) => ?_) (fun (h82 : x1 ≠ 1) => ?_)
          ·
            refine w_ldI e49_107 (fun _ => rfl) rfl ?_
            refine w_kI e49_108 ?_
            refine w_ic e49_109 (by omega) (by omega) (fun (h83 : x1 ≠ 3) => ?_) (fun (h83 : x1 = 3) => ?_)
            ·
              refine w_ldI e49_116 (fun _ => rfl) rfl ?_
              exact w_ri e49_117 rfl ⟨Z_, al_, ai_, mm_, sk_, Or.inr (Or.inr ⟨hne, hsz, by have h9 := de_e (v := x1) hS hno he hF hx9 (Or.inl ⟨by omega, rfl⟩) (by omega); exact ⟨h9.1, by rw [h9.2]⟩⟩), hk_, hM⟩
            ·
              refine w_kI e49_112 ?_
              refine w_x e49_113 (fun _ => rfl) ?_
              exact w_ri e49_117 rfl ⟨Z_, al_, ai_, mm_, sk_, Or.inr (Or.inr ⟨hne, hsz, by have h9 := de_e (v := 2) hS hno he hF hx9 (Or.inl ⟨by omega, rfl⟩) (by omega); exact ⟨h9.1, by rw [h9.2]⟩⟩), hk_, hM⟩
          ·
            refine w_ldA e49_99 (fun _ => rfl) rfl ?_
            refine w_get e49_100 e80 rfl ?_
            refine w_kI e49_103 ?_
            have e84 := tk_tri hM
            refine w_put e49_104 e84 (Nat.le_of_ble_eq_true rfl) rfl (fun v87 b85 h86 => ?_)
            obtain ⟨Z88, hd89, hM90⟩ : ∃ z, z = u2 Z_ 217 0 0 ∧ tk z al_ ai_ az mm_ sk_ v0 v87 := ⟨_, rfl, tk_Zt hM (by omega) b85 h86⟩
            have hk91 := kn_u hk_ hd89 (fun h9 => absurd h9 (by decide))
            refine w_ldI e49_107 (fun _ => rfl) rfl ?_
            refine w_kI e49_108 ?_
            refine w_ic e49_109 (by omega) (by omega) (fun (h92 : x1 ≠ 3) => ?_) (fun (h92 : x1 = 3) => ?_)
            ·
              refine w_ldI e49_116 (fun _ => rfl) rfl ?_
              exact w_ri e49_117 rfl ⟨Z88, al_, ai_, mm_, sk_, Or.inr (Or.inr ⟨hne, hsz, by have h9 := de_e (v := x1) hS hno he hF hx9 (Or.inr ⟨by omega, hd89⟩) (by omega); exact ⟨h9.1, by rw [h9.2]⟩⟩), hk91, hM90⟩
            ·
              refine w_kI e49_112 ?_
              refine w_x e49_113 (fun _ => rfl) ?_
              exact w_ri e49_117 rfl ⟨Z88, al_, ai_, mm_, sk_, Or.inr (Or.inr ⟨hne, hsz, by have h9 := de_e (v := 2) hS hno he hF hx9 (Or.inr ⟨by omega, hd89⟩) (by omega); exact ⟨h9.1, by rw [h9.2]⟩⟩), hk91, hM90⟩
        ·
          refine w_ldA e49_76 (fun _ => rfl) rfl ?_
          refine w_x e49_77 (fun _ => rfl) ?_
          refine w_get e49_78 e80 rfl ?_
          refine w_kI e49_81 ?_
          refine w_iadd e49_82 ?_
          refine w_put e49_83 e80 (Nat.le_of_ble_eq_true rfl) rfl (fun v95 b93 h94 => ?_)
          obtain ⟨Z96, hd97, hM98⟩ : ∃ z, z = u2 Z_ 1 3 ((Z_ 1 3) + 1) ∧ tk z al_ ai_ az mm_ sk_ v0 v95 := ⟨_, rfl, tk_Zm3 hM (by omega) b93 h94⟩
          have hk99 := kn_u hk_ hd97 (fun h9 => absurd h9 (by decide))
          refine w_ldA e49_86 (fun _ => rfl) rfl ?_
          have e100 := tk_main hM98
          refine w_cv e49_87 (by decide) rfl e100 rfl (Nat.le_of_ble_eq_true rfl) (Nat.le_of_ble_eq_true rfl) (Nat.le_of_ble_eq_true rfl) (by decide) (by decide) (k69 hM98 hk99 hn8 (by rw [hd97, u2_af (by decide), hF.1 2 (by decide) (by omega)]; exact ez) hv_ hfr_ (rwK_u3 (hS.2.2.1 (by omega)) hS.1.1.2 hd97) hS.1.1.2 (by rw [hd97, u2_o (by decide)]; exact hS.1.1.1) (by rw [hd97, u2_o (by decide)]; exact hS.1.2.1.1) hS.1.2.1.2) (fun o101 v102 hq103 => ?_)
          obtain ⟨Z104, al105, ai106, mm107, sk108, ⟨rfl, ho109⟩, hk110, hM111⟩ := hq103
          have hz3 : Z104 1 3 = Z_ 1 3 + 1 := by rw [ho109.2.2.2.2.2.1.2.1, hd97, u2_s]
          have hrg := rn_rng (fr := fr) (nv := nv) (R := t.2.1) (c := t.2.2.1) (s := t.2.2.2.1)
          refine w_stI (j := 1) (A1 := [some (.ref 1), some (.int (vz ((rnP fr nv t.2.1 t.2.2.1 t.2.2.2.1).1)))]) e49_90 (fun _ => rfl) (by decide) rfl ?_
          refine w_x e49_91 (fun _ => rfl) ?_
          exact w_sub (A1 := [some (.ref 1), some (.int (vz ((rnP fr nv t.2.1 t.2.2.1 t.2.2.2.1).1)))]) (And.intro rfl (And.intro rfl trivial)) ((ih) v102 Z104 al105 ai106 mm107 sk108 ((rnP fr nv t.2.1 t.2.2.1 t.2.2.2.1).1) hM111 hk110 (by omega) (dc_s hS (hno (by omega)) he (by omega) (by omega) hF (by rw [hd97, hk9]) ho109) hi1 hi2 (by omega))
set_option maxRecDepth 100000 in
set_option maxHeartbeats 4000000 in
theorem k49 {Z : Nat → Nat → Int} {al : Nat → Nat → Int64} {ai : Nat → Nat → Int} {az : Nat → Nat → Int32} {mm : Nat → Option Nat} {sk : Nat} {v0 vh : vm_H} (hM : tk Z al ai az mm sk v0 vh) (hk : kn Z) {fr : Nat → Bool} {nv n : Nat} {U : Nat → Po} (hU : usK nv n U Z al) (hn16 : n ≤ 16) (h10 : Z 1 0 = (n : Int)) (hn8 : nv ≤ 8) (ez : Z 2 0 = (nv : Int)) (hv : ∀ j, 0 ≤ ai 5 j ∧ ai 5 j < 8) (hfr : frK az ai = fr) : vm_Rp 6 160 49 [.ref 1] vh (fun r v1 => ∃ (Z1 : Nat → Nat → Int) (al1 : Nat → Nat → Int64) (ai1 : Nat → Nat → Int) (mm1 : Nat → Option Nat) (sk1 : Nat), ((((thP U (hyK az) n)).2 = 0 ∧ r = some (.int (vz (-1))) ∧ Z1 = Z ∧ al1 = al) ∨ (((thP U (hyK az) n)).2 ≠ 0 ∧ 0 < Z 217 0 ∧ Z1 = u2 Z 227 0 0 ∧ al1 = al ∧ ai1 = ai ∧ mm1 = mm ∧ r = some (.int (vz 1))) ∨ (((thP U (hyK az) n)).2 ≠ 0 ∧ Z 217 0 ≤ 0 ∧ deO fr nv (deP fr nv ((thP U (hyK az) n)).1 ((thP U (hyK az) n)).2) Z Z1 al al1 ai ai1 mm1 ∧ r = some (.int (vz (deP fr nv ((thP U (hyK az) n)).1 ((thP U (hyK az) n)).2).1.1)))) ∧ kn Z1 ∧ tk Z1 al1 ai1 az mm1 sk1 v0 v1) := by
  refine w_in (m := 1) ?_
  show vm_Wp _ _ _ 0 [some (.ref 1), none] [] _ _
  refine w_ldA e49_0 (fun _ => rfl) rfl ?_
  have e1 := tk_main hM
  refine w_cv e49_1 (by decide) rfl e1 rfl (Nat.le_of_ble_eq_true rfl) (Nat.le_of_ble_eq_true rfl) (Nat.le_of_ble_eq_true rfl) (by decide) (by decide) (k66 hM hk hU hn16 h10) (fun o2 v3 hq4 => ?_)
  obtain ⟨rfl, q5, h6, rfl⟩ := hq4
  have hb7 := h6.1
  refine w_if e49_4 (by omega) (fun (h8 : q5 ≠ 0) => ?_) (fun (h8 : q5 = 0) => ?_)
  ·
    refine w_ldA e49_9 (fun _ => rfl) rfl ?_
    refine w_get e49_10 e1 rfl ?_
    have e9 := tk_poly hM (rfl : ty 227 = 1)
    have hk10 := hk 227 (rfl : ty 227 = 1)
    refine w_cv e49_13 (by decide) rfl e9 rfl (Nat.le_of_ble_eq_true rfl) (Nat.le_of_ble_eq_true rfl) (Nat.le_of_ble_eq_true rfl) (by decide) (by decide) (k17 hM hk (rfl : ty 227 = 1)) (fun o11 v12 hq13 => ?_)
    obtain ⟨⟨Z14, hd15, hk16, hM17⟩, rfl⟩ := hq13
    have hz217 := congrFun (u2_oth (b := 217) hd15 (by decide)) 0
    refine w_ldA e49_16 (fun _ => rfl) rfl ?_
    have e18 := tk_main hM17
    refine w_get e49_17 e18 rfl ?_
    have e19 := tk_tri hM17
    refine w_get e49_20 e19 rfl ?_
    refine w_if e49_23 (tk_r hM17 217 0) (fun (h20 : Z14 217 0 ≤ 0) => ?_) (fun (h20 : 0 < Z14 217 0) => ?_)
    ·
      refine w_ldA e49_28 (fun _ => rfl) rfl ?_
      refine w_get e49_29 e18 rfl ?_
      have e21 := tk_poly hM17 (rfl : ty 224 = 1)
      have hk22 := hk16 224 (rfl : ty 224 = 1)
      refine w_cv e49_32 (by decide) rfl e21 rfl (Nat.le_of_ble_eq_true rfl) (Nat.le_of_ble_eq_true rfl) (Nat.le_of_ble_eq_true rfl) (by decide) (by decide) (k17 hM17 hk16 (rfl : ty 224 = 1)) (fun o23 v24 hq25 => ?_)
      obtain ⟨⟨Z26, hd27, hk28, hM29⟩, rfl⟩ := hq25
      refine w_ldA e49_35 (fun _ => rfl) rfl ?_
      refine w_kI e49_36 ?_
      have e30 := tk_main hM29
      refine w_put e49_37 e30 (Nat.le_of_ble_eq_true rfl) rfl (fun v33 b31 h32 => ?_)
      obtain ⟨Z34, hd35, hM36⟩ : ∃ z, z = u2 Z26 1 3 0 ∧ tk z al ai az mm sk v0 v33 := ⟨_, rfl, tk_Zm3 hM29 (by omega) b31 h32⟩
      have hk37 := kn_u hk28 hd35 (fun h9 => absurd h9 (by decide))
      refine w_ldA e49_40 (fun _ => rfl) rfl ?_
      refine w_kI e49_41 ?_
      have e38 := tk_main hM36
      refine w_put e49_42 e38 (Nat.le_of_ble_eq_true rfl) rfl (fun v41 b39 h40 => ?_)
      obtain ⟨Z42, hd43, hM44⟩ : ∃ z, z = u2 Z34 1 4 0 ∧ tk z al ai az mm sk v0 v41 := ⟨_, rfl, tk_Zm4 hM36 (by omega) b39 h40⟩
      have hk45 := kn_u hk37 hd43 (fun h9 => absurd h9 (by decide))
      have hdz := dcF_tr (dcF_u (al := al) (ai := ai) hd15 (Or.inr (Or.inr rfl))) (dcF_tr (dcF_u hd27 (Or.inr (Or.inl (by omega)))) (dcF_tr (dcF_u hd35 (Or.inl (by omega))) (dcF_u hd43 (Or.inl (by omega)))))
      have hz13 : Z42 1 3 = 0 := by rw [hd43, u2_o (by decide), hd35, u2_s]
      have hz14 : Z42 1 4 = 0 := by rw [hd43, u2_s]
      have hz224 : Z42 224 0 = 0 := by rw [hd43, u2_af (by decide), hd35, u2_af (by decide), hd27, u2_s]
      have hz227 : Z42 227 0 = 0 := by rw [hd43, u2_af (by decide), hd35, u2_af (by decide), hd27, u2_af (by decide), hd15, u2_s]
      have hU9 : usK nv n U Z42 al := usK_c hU hn16 hdz
      have h109 : Z42 1 0 = (n : Int) := hdz.2.1.1.trans h10
      have ez9 : Z42 2 0 = (nv : Int) := by rw [hdz.1 2 (by decide) (by omega)]; exact ez
      refine w_ldA e49_45 (fun _ => rfl) rfl ?_
      have e46 := tk_main hM44
      refine w_cv e49_46 (by decide) rfl e46 rfl (Nat.le_of_ble_eq_true rfl) (Nat.le_of_ble_eq_true rfl) (Nat.le_of_ble_eq_true rfl) (by decide) (by decide) (k67 hM44 hk45 hU9 hn16 h109 hn8 ez9 hv hfr) (fun o47 v48 hq49 => ?_)
      obtain ⟨⟨Z50, al51, hth52, hk53, hM54⟩, rfl⟩ := hq49
      have hth9 := hth52
      refine w_ldA e49_49 (fun _ => rfl) rfl ?_
      have e55 := tk_main hM54
      refine w_cv e49_50 (by decide) rfl e55 rfl (Nat.le_of_ble_eq_true rfl) (Nat.le_of_ble_eq_true rfl) (Nat.le_of_ble_eq_true rfl) (by decide) (by decide) (k68 hM54 hk53 hth9.2.1 (Nat.le_trans (th_le _) (by omega)) hth9.1) (fun o56 v57 hq58 => ?_)
      obtain ⟨Z59, al60, q61, ho62, rfl, hk63, hM64⟩ := hq58
      have hb65 := tcO_b ho62
      refine w_if e49_53 (by omega) (fun (h66 : q61 = 0) => ?_) (fun (h66 : q61 ≠ 0) => ?_)
      ·
        have hI := dc_3 (mm := mm) hth9 ho62 (by omega) hn16 hdz hz13 hz14 hz224 hz227
        refine w_kI e49_60 ?_
        refine w_stI (j := 1) (A1 := [some (.ref 1), some (.int (vz 3))]) e49_61 (fun _ => rfl) (by decide) rfl ?_
        exact w_sub (A1 := [some (.ref 1), some (.int (vz 3))]) (And.intro rfl (And.intro rfl trivial)) (((k49_L (Z := Z) (al := al) (ai := ai) (az := az) (mm := mm) (sk := sk) (v0 := v0) (fr := fr) (nv := nv) (n := n) (U := U) hk hU hn16 h10 hn8 ez hv hfr _)) v57 Z59 al60 ai mm sk 3 hM64 hk63 (by omega) hI (h6.2.mp (by omega)) (by omega) (Nat.lt_succ_self _))
      ·
        have hI := dc_1 (mm := mm) hth9 ho62 (by omega) hn16 hdz hz13 hz14 hz227
        refine w_kI e49_56 ?_
        refine w_x e49_57 (fun _ => rfl) ?_
        refine w_stI (j := 1) (A1 := [some (.ref 1), some (.int (vz 0))]) e49_61 (fun _ => rfl) (by decide) rfl ?_
        exact w_sub (A1 := [some (.ref 1), some (.int (vz 0))]) (And.intro rfl (And.intro rfl trivial)) (((k49_L (Z := Z) (al := al) (ai := ai) (az := az) (mm := mm) (sk := sk) (v0 := v0) (fr := fr) (nv := nv) (n := n) (U := U) hk hU hn16 h10 hn8 ez hv hfr _)) v57 Z59 al60 ai mm sk 0 hM64 hk63 (by omega) hI (h6.2.mp (by omega)) (by omega) (Nat.lt_succ_self _))
    ·
      refine w_kI e49_26 ?_
      exact w_ri e49_27 rfl ⟨Z14, al, ai, mm, sk, Or.inr (Or.inl ⟨h6.2.mp (by omega), by omega, hd15, rfl, rfl, rfl, rfl⟩), hk16, hM17⟩
  ·
    refine w_kI e49_7 ?_
    exact w_ri e49_8 rfl ⟨Z, al, ai, mm, sk, Or.inl ⟨th_z h6 (by omega), rfl, rfl, rfl⟩, hk, hM⟩
