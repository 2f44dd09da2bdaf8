set_option maxRecDepth 100000 in
set_option maxHeartbeats 4000000 in
theorem k17 {Z : Nat → Nat → Int} {al : Nat → Nat → Int64} {ai : Nat → Nat → Int} {az : Nat → Nat → Int32} {mm : Nat → Option Nat} {sk : Nat} {v0 vh : vm_H} (hM : tk Z al ai az mm sk v0 vh) (hk : kn Z) {a0 : Nat} (ha_0 : ty a0 = 1) : vm_Rp 0 0 17 [.ref a0] vh (fun r v1 => (∃ Z1 : Nat → Nat → Int, Z1 = u2 Z a0 0 0 ∧ kn Z1 ∧ tk Z1 al ai az mm sk v0 v1) ∧ r = none) := by
  refine w_in (m := 0) ?_
  show vm_Wp _ _ _ 0 [some (.ref a0)] [] _ _
  refine w_ldA e17_0 (fun _ => rfl) rfl ?_
  refine w_kI e17_1 ?_
  have e1 := tk_poly hM ha_0
  have hk2 := hk a0 ha_0
  refine w_put e17_2 e1 (Nat.le_of_ble_eq_true rfl) rfl (fun v5 b3 h4 => ?_)
  obtain ⟨Z6, hd7, hM8⟩ : ∃ z, z = u2 Z a0 0 0 ∧ tk z al ai az mm sk v0 v5 := ⟨_, rfl, tk_Zp hM ha_0 (by omega) b3 h4⟩
  have hk9 := kn_u hk hd7 (fun h9 => by omega)
  exact w_rv e17_5 rfl ⟨⟨Z6, hd7, hk9, hM8⟩, rfl⟩
set_option maxRecDepth 100000 in
set_option maxHeartbeats 4000000 in
theorem k65 {Z : Nat → Nat → Int} {al : Nat → Nat → Int64} {ai : Nat → Nat → Int} {az : Nat → Nat → Int32} {mm : Nat → Option Nat} {sk : Nat} {v0 vh : vm_H} (hM : tk Z al ai az mm sk v0 vh) (hk : kn Z) {i1 : Int} (hi_1 : 0 ≤ i1 ∧ i1 < 16) {nv n : Nat} {U : Nat → Po} (hU : usK nv n U Z al) (hn16 : n ≤ 16) (hin : i1 < (n : Int)) : vm_Rp 0 0 65 [.ref 1, .int (vz i1)] vh (fun r v1 => vh = v1 ∧ ∃ q : Int, ((0 ≤ q ∧ q ≤ 1) ∧ (q = 1 ↔ (hyK az (i1).toNat = true ∧ U (i1).toNat ≠ []))) ∧ r = some (.int (vz q))) := by
  refine w_in (m := 0) ?_
  show vm_Wp _ _ _ 0 [some (.ref 1), some (.int (vz i1))] [] _ _
  refine w_ldA e65_0 (fun _ => rfl) rfl ?_
  have e1 := tk_main hM
  refine w_get e65_1 e1 rfl ?_
  refine w_ldI e65_4 (fun _ => rfl) rfl ?_
  have e2 := tk_hyps hM
  refine w_zldO e65_5 e2 (by omega) (by omega) (by decide) (fun q3 h4 h5 => ?_)
  refine w_if e65_6 h4 (fun (h6 : q3 = 0) => ?_) (fun (h6 : q3 ≠ 0) => ?_)
  ·
    refine w_kI e65_25 ?_
    exact w_rz e65_26 rfl (by omega) ⟨rfl, 0, ⟨by omega, co_iff hU (by omega) h5 h4 (by omega)⟩, rfl⟩
  ·
    refine w_ldA e65_9 (fun _ => rfl) rfl ?_
    refine w_get e65_10 e1 rfl ?_
    refine w_ldI e65_13 (fun _ => rfl) rfl ?_
    obtain ⟨f8, hf9, e7⟩ := tk_polys hM
    refine w_qld e65_14 e7 (by decide) (by omega) (by omega) (by decide) (hf9 _ (by omega)) ?_
    have e10 := tk_poly hM (ty_pi ((i1).toNat) (by omega))
    have hk11 := hk (7 + 3 * (i1).toNat) (ty_pi ((i1).toNat) (by omega))
    refine w_get e65_15 e10 rfl ?_
    refine w_if e65_18 (tk_r hM (7 + 3 * (i1).toNat) 0) (fun (h12 : Z (7 + 3 * (i1).toNat) 0 ≤ 0) => ?_) (fun (h12 : 0 < Z (7 + 3 * (i1).toNat) 0) => ?_)
    ·
      refine w_kI e65_25 ?_
      exact w_rz e65_26 rfl (by omega) ⟨rfl, 0, ⟨by omega, co_iff hU (by omega) h5 h4 (by omega)⟩, rfl⟩
    ·
      refine w_kI e65_21 ?_
      refine w_x e65_22 (fun _ => rfl) ?_
      exact w_rz e65_26 rfl (by omega) ⟨rfl, 1, ⟨by omega, co_iff hU (by omega) h5 h4 (by omega)⟩, rfl⟩
set_option maxRecDepth 100000 in
set_option maxHeartbeats 4000000 in
theorem k66_L {Z : Nat → Nat → Int} {al : Nat → Nat → Int64} {ai : Nat → Nat → Int} {az : Nat → Nat → Int32} {mm : Nat → Option Nat} {sk : Nat} {v0 vh : vm_H} (hM : tk Z al ai az mm sk v0 vh) (hk : kn Z) {nv n : Nat} {U : Nat → Po} (hU : usK nv n U Z al) (hn16 : n ≤ 16) (h10 : Z 1 0 = (n : Int)) : ∀ N : Nat, (∀ (x1 : Int), (0 ≤ x1 ∧ x1 ≤ Z 1 0) → (∀ i : Nat, (i : Int) < x1 → ¬ (hyK az i = true ∧ U i ≠ [])) → ((17 - x1 : Int).toNat < N) → vm_Wp 1 21 66 2 [some (.ref 1), some (.int (vz x1))] [] vh (vq_P 66 (fun r v1 => vh = v1 ∧ ∃ q : Int, ((0 ≤ q ∧ q ≤ 1) ∧ (q = 1 ↔ (thP U (hyK az) n).2 ≠ 0)) ∧ r = some (.int (vz q))))) := by
  intro N
  induction N with
  | zero => exact (by intros; omega)
  | succ N ih =>
    ·
      intro x1 hx1 hi0 hN
      refine w_ldI e66_2 (fun _ => rfl) rfl ?_
      refine w_ldA e66_3 (fun _ => rfl) rfl ?_
      have e1 := tk_main hM
      refine w_get e66_4 e1 rfl ?_
      refine w_ic e66_7 (by omega) (tk_r hM 1 0) (fun (h2 : Z 1 0 ≤ x1) => ?_) (fun (h2 : x1 < Z 1 0) => ?_)
      ·
        refine w_kI e66_26 ?_
        exact w_rz e66_27 rfl (by omega) ⟨rfl, 0, ⟨by omega, fun h9 => absurd h9 (by decide), fun z => absurd (th_0.mpr fun i hi => hi0 i (by omega)) z⟩, rfl⟩
      ·
        refine w_ldA e66_10 (fun _ => rfl) rfl ?_
        refine w_ldI e66_11 (fun _ => rfl) rfl ?_
        refine w_cv e66_12 (by decide) rfl e1 rfl (Nat.le_of_ble_eq_true rfl) (Nat.le_of_ble_eq_true rfl) (Nat.le_of_ble_eq_true rfl) (by decide) (by decide) (k65 hM hk (by omega) hU hn16 (by omega)) (fun o3 v4 hq5 => ?_)
        obtain ⟨rfl, q6, h7, rfl⟩ := hq5
        have hb8 := h7.1
        refine w_if e66_15 (by omega) (fun (h9 : q6 = 0) => ?_) (fun (h9 : q6 ≠ 0) => ?_)
        ·
          refine w_iinc (A1 := [some (.ref 1), some (.int (vz (x1 + 1)))]) e66_20 rfl (by decide) rfl ?_
          refine w_x e66_23 (fun _ => rfl) ?_
          exact w_sub (A1 := [some (.ref 1), some (.int (vz (x1 + 1)))]) (And.intro rfl (And.intro rfl trivial)) ((ih) (x1 + 1) (by omega) (fun i hi => by by_cases h9 : (i : Int) < x1; exact hi0 i h9; rw [show i = (x1).toNat by omega]; exact fun z => by have h8 := h7.2.mpr z; omega) (by omega))
        ·
          refine w_kI e66_18 ?_
          exact w_rz e66_19 rfl (by omega) ⟨rfl, 1, ⟨by omega, fun _ z => th_0.mp z (x1).toNat (by omega) (h7.2.mp (by omega)), fun _ => rfl⟩, rfl⟩
set_option maxRecDepth 100000 in
set_option maxHeartbeats 4000000 in
theorem k66 {Z : Nat → Nat → Int} {al : Nat → Nat → Int64} {ai : Nat → Nat → Int} {az : Nat → Nat → Int32} {mm : Nat → Option Nat} {sk : Nat} {v0 vh : vm_H} (hM : tk Z al ai az mm sk v0 vh) (hk : kn Z) {nv n : Nat} {U : Nat → Po} (hU : usK nv n U Z al) (hn16 : n ≤ 16) (h10 : Z 1 0 = (n : Int)) : vm_Rp 1 21 66 [.ref 1] vh (fun r v1 => vh = v1 ∧ ∃ q : Int, ((0 ≤ q ∧ q ≤ 1) ∧ (q = 1 ↔ (thP U (hyK az) n).2 ≠ 0)) ∧ r = some (.int (vz q))) := by
  refine w_in (m := 1) ?_
  show vm_Wp _ _ _ 0 [some (.ref 1), none] [] _ _
  refine w_kI e66_0 ?_
  refine w_stI (j := 1) (A1 := [some (.ref 1), some (.int (vz 0))]) e66_1 (fun _ => rfl) (by decide) rfl ?_
  exact w_sub (A1 := [some (.ref 1), some (.int (vz 0))]) (And.intro rfl (And.intro rfl trivial)) (((k66_L (Z := Z) (al := al) (ai := ai) (az := az) (mm := mm) (sk := sk) (v0 := v0) (vh := vh) (nv := nv) (n := n) (U := U) hM hk hU hn16 h10 _)) 0 (by omega) (fun i hi => by omega) (Nat.lt_succ_self _))
set_option maxRecDepth 100000 in
set_option maxHeartbeats 4000000 in
theorem k67_L {Z : Nat → Nat → Int} {al : Nat → Nat → Int64} {ai : Nat → Nat → Int} {az : Nat → Nat → Int32} {mm : Nat → Option Nat} {sk : Nat} {v0 : vm_H} (hk : kn Z) {fr : Nat → Bool} {nv n : Nat} {U : Nat → Po} (hU : usK nv n U Z al) (hn16 : n ≤ 16) (h10 : Z 1 0 = (n : Int)) (hn8 : nv ≤ 8) (ez : Z 2 0 = (nv : Int)) (hv : ∀ j, 0 ≤ ai 5 j ∧ ai 5 j < 8) (hfr : frK az ai = fr) : ∀ N : Nat, (∀ (vh : vm_H) (Z_ : Nat → Nat → Int) (al_ : Nat → Nat → Int64) (x1 : Int), (tk Z_ al_ ai az mm sk v0 vh) → (kn Z_) → (0 ≤ x1 ∧ x1 ≤ Z 1 0) → (thI fr nv U (hyK az) Z Z_ al al_ ai x1) → ((17 - x1 : Int).toNat < N) → vm_Wp 4 97 67 7 [some (.ref 1), some (.int (vz x1))] [] vh (vq_P 67 (fun r v1 => (∃ (Z1 : Nat → Nat → Int) (al1 : Nat → Nat → Int64), thI fr nv U (hyK az) Z Z1 al al1 ai (n : Int) ∧ kn Z1 ∧ tk Z1 al1 ai az mm sk v0 v1) ∧ r = none))) := by
  intro N
  induction N with
  | zero => exact (by intros; omega)
  | succ N ih =>
    ·
      intro vh Z_ al_ x1 hM hk_ hx1 hi0 hN
      have hU_ := usK_d hU hn16 hi0.2.2.2.2
      have h10_ : Z_ 1 0 = Z 1 0 := hi0.2.2.2.2.2.1.1
      have hz11 := hi0.1
      have hle := th_le (U := U) (h := hyK az) (x1).toNat
      have ez_ : Z_ 2 0 = (nv : Int) := by rw [hi0.2.2.2.2.1 2 (by decide) (by omega)]; exact ez
      refine w_ldI e67_7 (fun _ => rfl) rfl ?_
      refine w_ldA e67_8 (fun _ => rfl) rfl ?_
      have e9 := tk_main hM
      refine w_get e67_9 e9 rfl ?_
      refine w_ic e67_12 (by omega) (tk_r hM 1 0) (fun (h10 : Z_ 1 0 ≤ x1) => ?_) (fun (h10 : x1 < Z_ 1 0) => ?_)
      ·
        exact w_rv e67_70 rfl ⟨⟨Z_, al_, by have h9 := hi0; rw [show x1 = (n : Int) by omega] at h9; exact h9, hk_, hM⟩, rfl⟩
      ·
        refine w_ldA e67_15 (fun _ => rfl) rfl ?_
        refine w_ldI e67_16 (fun _ => rfl) rfl ?_
        refine w_cv e67_17 (by decide) rfl e9 rfl (Nat.le_of_ble_eq_true rfl) (Nat.le_of_ble_eq_true rfl) (Nat.le_of_ble_eq_true rfl) (by decide) (by decide) (k65 hM hk_ (by omega) hU_ hn16 (by omega)) (fun o11 v12 hq13 => ?_)
        obtain ⟨rfl, q14, h15, rfl⟩ := hq13
        have hb16 := h15.1
        refine w_if e67_20 (by omega) (fun (h17 : q14 = 0) => ?_) (fun (h17 : q14 ≠ 0) => ?_)
        ·
          refine w_iinc (A1 := [some (.ref 1), some (.int (vz (x1 + 1)))]) e67_64 rfl (by decide) rfl ?_
          refine w_x e67_67 (fun _ => rfl) ?_
          exact w_sub (A1 := [some (.ref 1), some (.int (vz (x1 + 1)))]) (And.intro rfl (And.intro rfl trivial)) ((ih) vh Z_ al_ (x1 + 1) hM hk_ (by omega) (thI_n hi0 (by omega) (fun z => by have h8 := h15.2.mpr z; omega)) (by omega))
        ·
          refine w_ldA e67_23 (fun _ => rfl) rfl ?_
          refine w_get e67_24 e9 rfl ?_
          refine w_kB e67_27 rfl ?_
          refine w_ic e67_29 (tk_r hM 1 1) (by omega) (fun (h18 : 40 ≤ Z_ 1 1) => ?_) (fun (h18 : Z_ 1 1 < 40) => ?_)
          ·
            refine w_iinc (A1 := [some (.ref 1), some (.int (vz (x1 + 1)))]) e67_64 rfl (by decide) rfl ?_
            refine w_x e67_67 (fun _ => rfl) ?_
            exact w_sub (A1 := [some (.ref 1), some (.int (vz (x1 + 1)))]) (And.intro rfl (And.intro rfl trivial)) ((ih) vh Z_ al_ (x1 + 1) hM hk_ (by omega) (by exfalso; omega) (by omega))
          ·
            refine w_ldA e67_32 (fun _ => rfl) rfl ?_
            refine w_get e67_33 e9 rfl ?_
            refine w_ldA e67_36 (fun _ => rfl) rfl ?_
            refine w_get e67_37 e9 rfl ?_
            obtain ⟨f20, hf21, e19⟩ := tk_rows hM
            refine w_qld e67_40 e19 (by decide) (by omega) (by omega) (by decide) (hf21 _ (by omega)) ?_
            refine w_ldA e67_41 (fun _ => rfl) rfl ?_
            refine w_get e67_42 e9 rfl ?_
            refine w_ldI e67_45 (fun _ => rfl) rfl ?_
            obtain ⟨f23, hf24, e22⟩ := tk_polys hM
            refine w_qld e67_46 e22 (by decide) (by omega) (by omega) (by decide) (hf24 _ (by omega)) ?_
            refine w_ldA e67_47 (fun _ => rfl) rfl ?_
            refine w_get e67_48 e9 rfl ?_
            have e25 := tk_row hM (ty_ri ((Z_ 1 1).toNat) (by omega))
            refine w_cv e67_51 (by decide) rfl e25 rfl (Nat.le_of_ble_eq_true rfl) (Nat.le_of_ble_eq_true rfl) (Nat.le_of_ble_eq_true rfl) (by decide) (by decide) (k29 hM hk_ (ty_ri ((Z_ 1 1).toNat) (by omega)) (ty_pi ((x1).toNat) (by omega)) hn8 ez_ hv (hU_ (x1).toNat (by omega)).1 (hU_ (x1).toNat (by omega)).2 (by omega)) (fun o26 v27 hq28 => ?_)
            obtain ⟨⟨Z29, al30, ht31, hk32, hM33⟩, rfl⟩ := hq28
            have ht9 := ht31
            rw [hfr] at ht9
            have hc5 : Z29 1 1 = Z_ 1 1 := by rw [ht9.1 1 (by omega) (by omega)]
            refine w_ldA e67_54 (fun _ => rfl) rfl ?_
            refine w_x e67_55 (fun _ => rfl) ?_
            have e34 := tk_main hM33
            refine w_get e67_56 e34 rfl ?_
            refine w_kI e67_59 ?_
            refine w_iadd e67_60 ?_
            refine w_put e67_61 e34 (Nat.le_of_ble_eq_true rfl) rfl (fun v37 b35 h36 => ?_)
            obtain ⟨Z38, hd39, hM40⟩ : ∃ z, z = u2 Z29 1 1 ((Z29 1 1) + 1) ∧ tk z al30 ai az mm sk v0 v37 := ⟨_, rfl, tk_Zm1 hM33 (by omega) b35 h36⟩
            have hk41 := kn_u hk32 hd39 (fun h9 => absurd h9 (by decide))
            refine w_iinc (A1 := [some (.ref 1), some (.int (vz (x1 + 1)))]) e67_64 rfl (by decide) rfl ?_
            refine w_x e67_67 (fun _ => rfl) ?_
            exact w_sub (A1 := [some (.ref 1), some (.int (vz (x1 + 1)))]) (And.intro rfl (And.intro rfl trivial)) ((ih) v37 Z38 al30 (x1 + 1) hM40 hk41 (by omega) (thI_y hi0 (by omega) (h15.2.mp (by omega)) (hU_ _ (by omega)).2 ht9 hd39) (by omega))
set_option maxRecDepth 100000 in
set_option maxHeartbeats 4000000 in
theorem k67 {Z : Nat → Nat → Int} {al : Nat → Nat → Int64} {ai : Nat → Nat → Int} {az : Nat → Nat → Int32} {mm : Nat → Option Nat} {sk : Nat} {v0 vh : vm_H} (hM : tk Z al ai az mm sk v0 vh) (hk : kn Z) {fr : Nat → Bool} {nv n : Nat} {U : Nat → Po} (hU : usK nv n U Z al) (hn16 : n ≤ 16) (h10 : Z 1 0 = (n : Int)) (hn8 : nv ≤ 8) (ez : Z 2 0 = (nv : Int)) (hv : ∀ j, 0 ≤ ai 5 j ∧ ai 5 j < 8) (hfr : frK az ai = fr) : vm_Rp 4 97 67 [.ref 1] vh (fun r v1 => (∃ (Z1 : Nat → Nat → Int) (al1 : Nat → Nat → Int64), thI fr nv U (hyK az) Z Z1 al al1 ai (n : Int) ∧ kn Z1 ∧ tk Z1 al1 ai az mm sk v0 v1) ∧ r = none) := by
  refine w_in (m := 1) ?_
  show vm_Wp _ _ _ 0 [some (.ref 1), none] [] _ _
  refine w_ldA e67_0 (fun _ => rfl) rfl ?_
  refine w_kI e67_1 ?_
  have e1 := tk_main hM
  refine w_put e67_2 e1 (Nat.le_of_ble_eq_true rfl) rfl (fun v4 b2 h3 => ?_)
  obtain ⟨Z5, hd6, hM7⟩ : ∃ z, z = u2 Z 1 1 0 ∧ tk z al ai az mm sk v0 v4 := ⟨_, rfl, tk_Zm1 hM (by omega) b2 h3⟩
  have hk8 := kn_u hk hd6 (fun h9 => absurd h9 (by decide))
  refine w_kI e67_5 ?_
  refine w_stI (j := 1) (A1 := [some (.ref 1), some (.int (vz 0))]) e67_6 (fun _ => rfl) (by decide) rfl ?_
  exact w_sub (A1 := [some (.ref 1), some (.int (vz 0))]) (And.intro rfl (And.intro rfl trivial)) (((k67_L (Z := Z) (al := al) (ai := ai) (az := az) (mm := mm) (sk := sk) (v0 := v0) (fr := fr) (nv := nv) (n := n) (U := U) hk hU hn16 h10 hn8 ez hv hfr _)) v4 Z5 al 0 hM7 hk8 (by omega) (thI_0 hd6) (Nat.lt_succ_self _))
set_option maxRecDepth 100000 in
set_option maxHeartbeats 4000000 in
theorem k68_L {Z : Nat → Nat → Int} {al : Nat → Nat → Int64} {ai : Nat → Nat → Int} {az : Nat → Nat → Int32} {mm : Nat → Option Nat} {sk : Nat} {v0 : vm_H} (hk : kn Z) {fr : Nat → Bool} {nv c : Nat} {R : Nat → Po} (hR : rwW fr nv Z al R c) (hc : c ≤ 40) (h11 : Z 1 1 = (c : Int)) : ∀ N : Nat, (∀ (vh : vm_H) (x1 : Int), (tk Z al ai az mm sk v0 vh) → (0 ≤ x1 ∧ x1 ≤ Z 1 1) → (fsP fr nv R (x1).toNat = none) → ((41 - x1 : Int).toNat < N) → vm_Wp 2 51 68 2 [some (.ref 1), some (.int (vz x1))] [] vh (vq_P 68 (fun r v1 => ∃ (Z1 : Nat → Nat → Int) (al1 : Nat → Nat → Int64) (q : Int), tcO fr nv R c Z Z1 al al1 q ∧ r = some (.int (vz q)) ∧ kn Z1 ∧ tk Z1 al1 ai az mm sk v0 v1))) := by
  intro N
  induction N with
  | zero => exact (by intros; omega)
  | succ N ih =>
    ·
      intro vh x1 hM hx1 hi0 hN
      refine w_ldI e68_2 (fun _ => rfl) rfl ?_
      refine w_ldA e68_3 (fun _ => rfl) rfl ?_
      have e1 := tk_main hM
      refine w_get e68_4 e1 rfl ?_
      refine w_ic e68_7 (by omega) (tk_r hM 1 1) (fun (h2 : Z 1 1 ≤ x1) => ?_) (fun (h2 : x1 < Z 1 1) => ?_)
      ·
        refine w_kI e68_47 ?_
        exact w_rz e68_48 rfl (by omega) ⟨Z, al, 0, Or.inl ⟨rfl, by have h9 := hi0; rw [show (x1).toNat = c by omega] at h9; exact h9, rfl, rfl⟩, rfl, hk, hM⟩
      ·
        refine w_ldA e68_10 (fun _ => rfl) rfl ?_
        refine w_get e68_11 e1 rfl ?_
        refine w_ldI e68_14 (fun _ => rfl) rfl ?_
        obtain ⟨f4, hf5, e3⟩ := tk_rows hM
        refine w_qld e68_15 e3 (by decide) (by omega) (by omega) (by decide) (hf5 _ (by omega)) ?_
        have e6 := tk_row hM (ty_ri ((x1).toNat) (by omega))
        refine w_get e68_16 e6 rfl ?_
        refine w_kI e68_19 ?_
        refine w_ic e68_20 (tk_r hM (57 + 4 * (x1).toNat) 0) (by omega) (fun (h7 : Z (57 + 4 * (x1).toNat) 0 ≠ -1) => ?_) (fun (h7 : Z (57 + 4 * (x1).toNat) 0 = -1) => ?_)
        ·
          refine w_iinc (A1 := [some (.ref 1), some (.int (vz (x1 + 1)))]) e68_41 rfl (by decide) rfl ?_
          refine w_x e68_44 (fun _ => rfl) ?_
          exact w_sub (A1 := [some (.ref 1), some (.int (vz (x1 + 1)))]) (And.intro rfl (And.intro rfl trivial)) ((ih) vh (x1 + 1) hM (by omega) (fs_no hi0 (by omega) (by have h9 := (hR (x1).toNat (by omega)).2.1; omega)) (by omega))
        ·
          refine w_ldA e68_23 (fun _ => rfl) rfl ?_
          refine w_get e68_24 e1 rfl ?_
          refine w_ldA e68_27 (fun _ => rfl) rfl ?_
          refine w_get e68_28 e1 rfl ?_
          refine w_ldI e68_31 (fun _ => rfl) rfl ?_
          refine w_qld e68_32 e3 (by decide) (by omega) (by omega) (by decide) (hf5 _ (by omega)) ?_
          refine w_get e68_33 e6 rfl ?_
          have e8 := tk_poly hM (rfl : ty 224 = 1)
          have hk9 := hk 224 (rfl : ty 224 = 1)
          refine w_cv e68_36 (by decide) rfl e8 rfl (Nat.le_of_ble_eq_true rfl) (Nat.le_of_ble_eq_true rfl) (Nat.le_of_ble_eq_true rfl) (by decide) (by decide) (k19 hM hk (rfl : ty 224 = 1) (ty_r (ty_ri ((x1).toNat) (by omega))) (by omega)) (fun o10 v11 hq12 => ?_)
          obtain ⟨⟨al13, hc14, hM15⟩, rfl⟩ := hq12
          obtain ⟨Z17, hd18⟩ : ∃ z, z = u2 Z 224 0 (Z (57 + 4 * (x1).toNat + 1) 0) := ⟨_, rfl⟩
          rw [← hd18] at hM15
          have hk16 := kn_u hk hd18 (fun _ => hk (57 + 4 * (x1).toNat + 1) (ty_r (ty_ri ((x1).toNat) (by omega))))
          refine w_kI e68_39 ?_
          exact w_rz e68_40 rfl (by omega) ⟨Z17, al13, 1, Or.inr ⟨rfl, (x1).toNat, by omega, fs_yes hi0 (by have h9 := (hR (x1).toNat (by omega)).2.1; omega) c (by omega), hd18, hc14⟩, rfl, hk16, hM15⟩
set_option maxRecDepth 100000 in
set_option maxHeartbeats 4000000 in
theorem k68 {Z : Nat → Nat → Int} {al : Nat → Nat → Int64} {ai : Nat → Nat → Int} {az : Nat → Nat → Int32} {mm : Nat → Option Nat} {sk : Nat} {v0 vh : vm_H} (hM : tk Z al ai az mm sk v0 vh) (hk : kn Z) {fr : Nat → Bool} {nv c : Nat} {R : Nat → Po} (hR : rwW fr nv Z al R c) (hc : c ≤ 40) (h11 : Z 1 1 = (c : Int)) : vm_Rp 2 51 68 [.ref 1] vh (fun r v1 => ∃ (Z1 : Nat → Nat → Int) (al1 : Nat → Nat → Int64) (q : Int), tcO fr nv R c Z Z1 al al1 q ∧ r = some (.int (vz q)) ∧ kn Z1 ∧ tk Z1 al1 ai az mm sk v0 v1) := by
  refine w_in (m := 1) ?_
  show vm_Wp _ _ _ 0 [some (.ref 1), none] [] _ _
  refine w_kI e68_0 ?_
  refine w_stI (j := 1) (A1 := [some (.ref 1), some (.int (vz 0))]) e68_1 (fun _ => rfl) (by decide) rfl ?_
  exact w_sub (A1 := [some (.ref 1), some (.int (vz 0))]) (And.intro rfl (And.intro rfl trivial)) (((k68_L (Z := Z) (al := al) (ai := ai) (az := az) (mm := mm) (sk := sk) (v0 := v0) (fr := fr) (nv := nv) (c := c) (R := R) hk hR hc h11 _)) vh 0 hM (by omega) rfl (Nat.lt_succ_self _))
