set_option maxRecDepth 100000 in
set_option maxHeartbeats 4000000 in
theorem r93_L {sc : Nat → Int} {ai : Nat → Nat → Int} {al : Nat → Nat → Int64} {az : Nat → Nat → Int32} {v0 : vm_H} (hK : tmok ai) {i1 : Int} (hi_1 : 0 ≤ i1 ∧ i1 ≤ 1) {i2 : Int} (hi_2 : 0 ≤ i2 ∧ i2 ≤ 200) {fr : Nat → Bool} {V : Nat → Nat} {nv n : Nat} {S : Nat → Po × Nat × Nat} {f0 : Po} (hv : sc 1 = (nv : Int)) (hvr : vR ai = V) (hfr : frR az ai = fr) (hV : pmV V nv) (hG0 : tbG V nv sc ai al az []) (hL : qL V nv ai al 69 f0) (hg : gk nv f0) (hb : bsQ fr V nv ai al n S) (hn : sc 40 = (n : Int)) (hn8 : n ≤ 8) (hk0 : i1 = 0) : ∀ N : Nat, (∀ (vh : vm_H) (sc_ : Nat → Int) (ai_ : Nat → Nat → Int) (al_ : Nat → Nat → Int64) (az_ : Nat → Nat → Int32) (x3 : Int), (tm sc_ ai_ al_ az_ v0 vh) → (tmok ai_) → (-1 ≤ x3 ∧ x3 < sc 40) → (rdJ V nv S (i2).toNat n f0 sc sc_ ai ai_ al al_ az az_ x3) → (((x3 + 1) * 1000 + 999 : Int).toNat < N) → vm_Wp 5 132 93 12 [some (.ref 238), some (.int (vz i1)), some (.int (vz i2)), some (.int (vz x3)), none, none] [] vh (vq_P 93 (fun r v1 => ∃ (sc1 : Nat → Int) (ai1 : Nat → Nat → Int) (al1 : Nat → Nat → Int64) (az1 : Nat → Nat → Int32) (q : Int), rdR V nv (rdP S (i2).toNat n f0) sc sc1 ai ai1 al al1 az az1 q ∧ r = some (.int (vz q)) ∧ tmok ai1 ∧ tm sc1 ai1 al1 az1 v0 v1))) ∧ (∀ (vh : vm_H) (sc_ : Nat → Int) (ai_ : Nat → Nat → Int) (al_ : Nat → Nat → Int64) (az_ : Nat → Nat → Int32) (x3 : Int) (x4 : Int) (x5 : Int), (tm sc_ ai_ al_ az_ v0 vh) → (tmok ai_) → (0 ≤ x3 ∧ x3 < sc 40) → (-2147483648 ≤ x4 ∧ x4 < 2147483648) → (-2147483648 ≤ x5 ∧ x5 < 2147483648) → (rdJ V nv S (i2).toNat n f0 sc sc_ ai ai_ al al_ az az_ x3) → (x4 = (V (S (x3).toNat).2.1 : Int)) → (x5 = ((S (x3).toNat).2.2 : Int)) → (((x3 + 1) * 1000 + 300 - sc_ 41 : Int).toNat < N) → vm_Wp 5 132 93 47 [some (.ref 238), some (.int (vz i1)), some (.int (vz i2)), some (.int (vz x3)), some (.int (vz x4)), some (.int (vz x5))] [] vh (vq_P 93 (fun r v1 => ∃ (sc1 : Nat → Int) (ai1 : Nat → Nat → Int) (al1 : Nat → Nat → Int64) (az1 : Nat → Nat → Int32) (q : Int), rdR V nv (rdP S (i2).toNat n f0) sc sc1 ai ai1 al al1 az az1 q ∧ r = some (.int (vz q)) ∧ tmok ai1 ∧ tm sc1 ai1 al1 az1 v0 v1))) := by
  intro N
  induction N with
  | zero => exact ⟨by intros; omega, by intros; omega⟩
  | succ N ih =>
    refine ⟨?_, ?_⟩
    ·
      intro vh sc_ ai_ al_ az_ x3 hM hK_ hx3 hi0q hN
      have hi0b := hi0q
      obtain ⟨f, hQ, hGt, ⟨h41, hre⟩, hRH⟩ := hi0b
      have hvr_ : vR ai_ = V := (rH_vR hRH).trans hvr
      have hfr_ : frR az_ ai_ = fr := (rH_fr hRH).trans hfr
      have hb_ := rH_bs hRH hK hb
      have hv_ : sc_ 1 = (nv : Int) := by rw [hRH.1 1 (by decide) (by decide) (by decide) (by decide)]; exact hv
      have hn_ : sc_ 40 = (n : Int) := by rw [hRH.1 40 (by decide) (by decide) (by decide) (by decide)]; exact hn
      have hQl := hQ.1.1
      have hVn := hV.1
      refine w_ldI e93_12 (fun _ => rfl) rfl ?_
      refine w_if e93_13 (by omega) (fun (h9 : x3 < 0) => ?_) (fun (h9 : 0 ≤ x3) => ?_)
      ·
        refine w_kI e93_139 ?_
        exact w_rz e93_140 rfl (by omega) ⟨sc_, ai_, al_, az_, 1, rdR_t hQ hGt h41 hre hRH (by omega), rfl, hK_, hM⟩
      ·
        refine w_ldA e93_16 (fun _ => rfl) rfl ?_
        have e10 := tm_o hM
        refine w_get e93_17 e10 rfl ?_
        refine w_ldA e93_20 (fun _ => rfl) rfl ?_
        refine w_ldA e93_21 (fun _ => rfl) rfl ?_
        refine w_get e93_22 e10 rfl ?_
        refine w_ldI e93_25 (fun _ => rfl) rfl ?_
        have e11 := tm_i hM (a := 261) (n := 8) rfl
        refine w_ald e93_26 e11 (by omega) (by omega) (by decide) ?_
        show vm_Wp _ _ _ 27 _ [.int (vz (ai_ 261 (x3).toNat)), .ref 238, .ref 240] _ _
        have hmm := (hb_ (x3).toNat (by omega)).1
        refine w_cv e93_27 (by decide) rfl e10 rfl (Nat.le_of_ble_eq_true rfl) (Nat.le_of_ble_eq_true rfl) (Nat.le_of_ble_eq_true rfl) (by decide) (by decide) (c86 hM hK_ (by omega) (by omega)) (fun o12 v13 hq14 => ?_)
        obtain ⟨rfl, rfl⟩ := hq14
        have hp15 := mpf_bd (az_ 239) (ai_ 240) (fun v => dgf (al_ 244) (60 * (ai_ 261 (x3).toNat)).toNat v (ai_ 242 (ai_ 261 (x3).toNat).toNat).toNat) (sc_ 1).toNat
        show vm_Wp _ _ _ 30 _ [.int (vz (mpf (az_ 239) (ai_ 240) (fun v => dgf (al_ 244) (60 * (ai_ 261 (x3).toNat)).toNat v (ai_ 242 (ai_ 261 (x3).toNat).toNat).toNat) (sc_ 1).toNat)), .ref 240] _ _
        have hmp : mpf (az_ 239) (ai_ 240) (fun v => dgf (al_ 244) (60 * (ai_ 261 (x3).toNat)).toNat v (ai_ 242 (ai_ 261 (x3).toNat).toNat).toNat) (sc_ 1).toNat = ((S (x3).toNat).2.1 : Int) := by rw [re_mp (hb_ (x3).toNat (by omega)).2.1.1 hV hvr_ hK_ (hv_) (by omega), hfr_]; exact (hb_ (x3).toNat (by omega)).2.2.1
        have hpb := pl_bd (fr := fr) (nv := nv) (f := (S (x3).toNat).1)
        have hpc := (hb_ (x3).toNat (by omega)).2.2.1
        have e16 := tm_i hM (a := 240) (n := 8) rfl
        refine w_ald e93_30 e16 (by omega) (by omega) (by decide) ?_
        show vm_Wp _ _ _ 31 _ [.int (vz (ai_ 240 (mpf (az_ 239) (ai_ 240) (fun v => dgf (al_ 244) (60 * (ai_ 261 (x3).toNat)).toNat v (ai_ 242 (ai_ 261 (x3).toNat).toNat).toNat) (sc_ 1).toNat).toNat))] _ _
        have hk17 := hK_.2 (mpf (az_ 239) (ai_ 240) (fun v => dgf (al_ 244) (60 * (ai_ 261 (x3).toNat)).toNat v (ai_ 242 (ai_ 261 (x3).toNat).toNat).toNat) (sc_ 1).toNat).toNat
        have hvv : ai_ 240 (mpf (az_ 239) (ai_ 240) (fun v => dgf (al_ 244) (60 * (ai_ 261 (x3).toNat)).toNat v (ai_ 242 (ai_ 261 (x3).toNat).toNat).toNat) (sc_ 1).toNat).toNat = (V (S (x3).toNat).2.1 : Int) := by rw [hmp, Int.toNat_natCast]; exact re_o hK_ hvr_
        refine w_stI (j := 4) (A1 := [some (.ref 238), some (.int (vz i1)), some (.int (vz i2)), some (.int (vz x3)), some (.int (vz (ai_ 240 (mpf (az_ 239) (ai_ 240) (fun v => dgf (al_ 244) (60 * (ai_ 261 (x3).toNat)).toNat v (ai_ 242 (ai_ 261 (x3).toNat).toNat).toNat) (sc_ 1).toNat).toNat))), none]) e93_31 (fun _ => rfl) (by decide) rfl ?_
        refine w_ldA e93_33 (fun _ => rfl) rfl ?_
        refine w_ldA e93_34 (fun _ => rfl) rfl ?_
        refine w_get e93_35 e10 rfl ?_
        refine w_ldI e93_38 (fun _ => rfl) rfl ?_
        refine w_ald e93_39 e11 (by omega) (by omega) (by decide) ?_
        show vm_Wp _ _ _ 40 _ [.int (vz (ai_ 261 (x3).toNat)), .ref 238] _ _
        have hm18 := (hb_ (x3).toNat (by omega)).1
        refine w_ldI e93_40 (fun _ => rfl) rfl ?_
        refine w_cv e93_42 (by decide) rfl e10 rfl (Nat.le_of_ble_eq_true rfl) (Nat.le_of_ble_eq_true rfl) (Nat.le_of_ble_eq_true rfl) (by decide) (by decide) (c85 hM hK_ (by omega) (tm_r hM 240 (mpf (az_ 239) (ai_ 240) (fun v => dgf (al_ 244) (60 * (ai_ 261 (x3).toNat)).toNat v (ai_ 242 (ai_ 261 (x3).toNat).toNat).toNat) (sc_ 1).toNat).toNat)) (fun o19 v20 hq21 => ?_)
        obtain ⟨rfl, rfl⟩ := hq21
        have hp22 := dgf_bd (al_ 244) (60 * (ai_ 261 (x3).toNat)).toNat (ai_ 240 (mpf (az_ 239) (ai_ 240) (fun v => dgf (al_ 244) (60 * (ai_ 261 (x3).toNat)).toNat v (ai_ 242 (ai_ 261 (x3).toNat).toNat).toNat) (sc_ 1).toNat).toNat) (ai_ 242 (ai_ 261 (x3).toNat).toNat).toNat
        show vm_Wp _ _ _ 45 _ [.int (vz (dgf (al_ 244) (60 * (ai_ 261 (x3).toNat)).toNat (ai_ 240 (mpf (az_ 239) (ai_ 240) (fun v => dgf (al_ 244) (60 * (ai_ 261 (x3).toNat)).toNat v (ai_ 242 (ai_ 261 (x3).toNat).toNat).toNat) (sc_ 1).toNat).toNat) (ai_ 242 (ai_ 261 (x3).toNat).toNat).toNat))] _ _
        have hee : dgf (al_ 244) (60 * (ai_ 261 (x3).toNat)).toNat (ai_ 240 (mpf (az_ 239) (ai_ 240) (fun v => dgf (al_ 244) (60 * (ai_ 261 (x3).toNat)).toNat v (ai_ 242 (ai_ 261 (x3).toNat).toNat).toNat) (sc_ 1).toNat).toNat) (ai_ 242 (ai_ 261 (x3).toNat).toNat).toNat = ((S (x3).toNat).2.2 : Int) := by rw [qL_dg (hb_ (x3).toNat (by omega)).2.1.1 hV (by omega) hvv (by omega), ← (hb_ (x3).toNat (by omega)).2.2.2]
        refine w_stI (j := 5) (A1 := [some (.ref 238), some (.int (vz i1)), some (.int (vz i2)), some (.int (vz x3)), some (.int (vz (ai_ 240 (mpf (az_ 239) (ai_ 240) (fun v => dgf (al_ 244) (60 * (ai_ 261 (x3).toNat)).toNat v (ai_ 242 (ai_ 261 (x3).toNat).toNat).toNat) (sc_ 1).toNat).toNat))), some (.int (vz (dgf (al_ 244) (60 * (ai_ 261 (x3).toNat)).toNat (ai_ 240 (mpf (az_ 239) (ai_ 240) (fun v => dgf (al_ 244) (60 * (ai_ 261 (x3).toNat)).toNat v (ai_ 242 (ai_ 261 (x3).toNat).toNat).toNat) (sc_ 1).toNat).toNat) (ai_ 242 (ai_ 261 (x3).toNat).toNat).toNat)))]) e93_45 (fun _ => rfl) (by decide) rfl ?_
        exact w_sub (A1 := [some (.ref 238), some (.int (vz i1)), some (.int (vz i2)), some (.int (vz x3)), some (.int (vz (ai_ 240 (mpf (az_ 239) (ai_ 240) (fun v => dgf (al_ 244) (60 * (ai_ 261 (x3).toNat)).toNat v (ai_ 242 (ai_ 261 (x3).toNat).toNat).toNat) (sc_ 1).toNat).toNat))), some (.int (vz (dgf (al_ 244) (60 * (ai_ 261 (x3).toNat)).toNat (ai_ 240 (mpf (az_ 239) (ai_ 240) (fun v => dgf (al_ 244) (60 * (ai_ 261 (x3).toNat)).toNat v (ai_ 242 (ai_ 261 (x3).toNat).toNat).toNat) (sc_ 1).toNat).toNat) (ai_ 242 (ai_ 261 (x3).toNat).toNat).toNat)))]) (And.intro rfl (And.intro rfl (And.intro rfl (And.intro rfl (And.intro rfl (And.intro rfl trivial)))))) ((ih.2) vh sc_ ai_ al_ az_ x3 (ai_ 240 (mpf (az_ 239) (ai_ 240) (fun v => dgf (al_ 244) (60 * (ai_ 261 (x3).toNat)).toNat v (ai_ 242 (ai_ 261 (x3).toNat).toNat).toNat) (sc_ 1).toNat).toNat) (dgf (al_ 244) (60 * (ai_ 261 (x3).toNat)).toNat (ai_ 240 (mpf (az_ 239) (ai_ 240) (fun v => dgf (al_ 244) (60 * (ai_ 261 (x3).toNat)).toNat v (ai_ 242 (ai_ 261 (x3).toNat).toNat).toNat) (sc_ 1).toNat).toNat) (ai_ 242 (ai_ 261 (x3).toNat).toNat).toNat) hM hK_ (by omega) (tm_r hM 240 (mpf (az_ 239) (ai_ 240) (fun v => dgf (al_ 244) (60 * (ai_ 261 (x3).toNat)).toNat v (ai_ 242 (ai_ 261 (x3).toNat).toNat).toNat) (sc_ 1).toNat).toNat) (by omega) hi0q hvv hee (by omega))
    ·
      intro vh sc_ ai_ al_ az_ x3 x4 x5 hM hK_ hx3 hx4 hx5 hi0q hi1 hi2 hN
      have hi0b := hi0q
      obtain ⟨f, hQ, hGt, ⟨h41, hre⟩, hRH⟩ := hi0b
      have hvr_ : vR ai_ = V := (rH_vR hRH).trans hvr
      have hfr_ : frR az_ ai_ = fr := (rH_fr hRH).trans hfr
      have hb_ := rH_bs hRH hK hb
      have hv_ : sc_ 1 = (nv : Int) := by rw [hRH.1 1 (by decide) (by decide) (by decide) (by decide)]; exact hv
      have hn_ : sc_ 40 = (n : Int) := by rw [hRH.1 40 (by decide) (by decide) (by decide) (by decide)]; exact hn
      have hQl := hQ.1.1
      have hVn := hV.1
      have hpb := pl_bd (fr := fr) (nv := nv) (f := (S (x3).toNat).1)
      have hpc := (hb_ (x3).toNat (by omega)).2.2.1
      have hpn : (S (x3).toNat).2.1 < nv := by omega
      have hVp := hV.2.1 _ hpn
      have h69K := hK_.1 69
      refine w_ldA e93_47 (fun _ => rfl) rfl ?_
      have e23 := tm_o hM
      refine w_get e93_48 e23 rfl ?_
      refine w_kB e93_51 rfl ?_
      have e24 := tm_i hM (a := 242) (n := 72) rfl
      refine w_ald e93_53 e24 (by omega) (by omega) (by decide) ?_
      show vm_Wp _ _ _ 54 _ [.int (vz (ai_ 242 69))] _ _
      have hk25 := hK_.1 69
      refine w_if e93_54 (tm_r hM 242 69) (fun (h26 : ai_ 242 69 ≤ 0) => ?_) (fun (h26 : 0 < ai_ 242 69) => ?_)
      ·
        refine w_iinc (A1 := [some (.ref 238), some (.int (vz i1)), some (.int (vz i2)), some (.int (vz (x3 + (-1)))), some (.int (vz x4)), some (.int (vz x5))]) e93_133 rfl (by decide) rfl ?_
        refine w_x e93_136 (fun _ => rfl) ?_
        exact w_sub (A1 := [some (.ref 238), some (.int (vz i1)), some (.int (vz i2)), some (.int (vz (x3 + (-1)))), none, none]) (And.intro rfl (And.intro rfl (And.intro rfl (And.intro rfl trivial)))) ((ih.1) vh sc_ ai_ al_ az_ (x3 + (-1)) hM hK_ (by omega) (rdJ_n hQ hGt h41 hre hRH (by omega) (fun z => z.1 (List.eq_nil_of_length_eq_zero (by omega)))) (by omega))
      ·
        refine w_ldA e93_57 (fun _ => rfl) rfl ?_
        refine w_kB e93_58 rfl ?_
        refine w_ldI e93_60 (fun _ => rfl) rfl ?_
        refine w_cv e93_62 (by decide) rfl e23 rfl (Nat.le_of_ble_eq_true rfl) (Nat.le_of_ble_eq_true rfl) (Nat.le_of_ble_eq_true rfl) (by decide) (by decide) (c85 hM hK_ (by omega) hx4) (fun o27 v28 hq29 => ?_)
        obtain ⟨rfl, rfl⟩ := hq29
        have hp30 := dgf_bd (al_ 244) (60 * ((69 : Int))).toNat x4 (ai_ 242 ((69 : Int)).toNat).toNat
        show vm_Wp _ _ _ 65 _ [.int (vz (dgf (al_ 244) (60 * ((69 : Int))).toNat x4 (ai_ 242 ((69 : Int)).toNat).toNat))] _ _
        have hdd : dgf (al_ 244) (60 * ((69 : Int))).toNat x4 (ai_ 242 ((69 : Int)).toNat).toNat = (dgP f (S (x3).toNat).2.1 : Int) := qL_dg hQ.1 hV hpn hi1 rfl
        refine w_ldI e93_65 (fun _ => rfl) rfl ?_
        refine w_ic e93_67 (by omega) hx5 (fun (h31 : dgf (al_ 244) (60 * ((69 : Int))).toNat x4 (ai_ 242 ((69 : Int)).toNat).toNat < x5) => ?_) (fun (h31 : x5 ≤ dgf (al_ 244) (60 * ((69 : Int))).toNat x4 (ai_ 242 ((69 : Int)).toNat).toNat) => ?_)
        ·
          refine w_iinc (A1 := [some (.ref 238), some (.int (vz i1)), some (.int (vz i2)), some (.int (vz (x3 + (-1)))), some (.int (vz x4)), some (.int (vz x5))]) e93_133 rfl (by decide) rfl ?_
          refine w_x e93_136 (fun _ => rfl) ?_
          exact w_sub (A1 := [some (.ref 238), some (.int (vz i1)), some (.int (vz i2)), some (.int (vz (x3 + (-1)))), none, none]) (And.intro rfl (And.intro rfl (And.intro rfl (And.intro rfl trivial)))) ((ih.1) vh sc_ ai_ al_ az_ (x3 + (-1)) hM hK_ (by omega) (rdJ_n hQ hGt h41 hre hRH (by omega) (fun z => by have := z.2; omega)) (by omega))
        ·
          have hdue : dueS S f (x3).toNat := ⟨fun z => by rw [z] at hQl; have hQm : ai_ 242 69 = 0 := hQl; omega, by omega⟩
          refine w_ldA e93_70 (fun _ => rfl) rfl ?_
          refine w_get e93_71 e23 rfl ?_
          refine w_ldI e93_74 (fun _ => rfl) rfl ?_
          refine w_ic e93_75 (tm_s hM 41) (by omega) (fun (h32 : sc_ 41 ≠ i2) => ?_) (fun (h32 : sc_ 41 = i2) => ?_)
          ·
            refine w_ldI e93_80 (fun _ => rfl) rfl ?_
            refine w_if e93_81 (by omega) (fun (h33 : i1 = 0) => ?_) (fun (h33 : i1 ≠ 0) => ?_)
            ·
              refine w_ldA e93_101 (fun _ => rfl) rfl ?_
              refine w_ldA e93_102 (fun _ => rfl) rfl ?_
              refine w_get e93_103 e23 rfl ?_
              refine w_ldI e93_106 (fun _ => rfl) rfl ?_
              have e34 := tm_i hM (a := 261) (n := 8) rfl
              refine w_ald e93_107 e34 (by omega) (by omega) (by decide) ?_
              show vm_Wp _ _ _ 108 _ [.int (vz (ai_ 261 (x3).toNat)), .ref 238] _ _
              have hm35 := (hb_ (x3).toNat (by omega)).1
              refine w_ldI e93_108 (fun _ => rfl) rfl ?_
              refine w_ldI e93_110 (fun _ => rfl) rfl ?_
              refine w_cv e93_112 (by decide) rfl e23 rfl (Nat.le_of_ble_eq_true rfl) (Nat.le_of_ble_eq_true rfl) (Nat.le_of_ble_eq_true rfl) (by decide) (by decide) (r91 hM hK_ (by omega) hx4 hx5 hv_ hvr_ hV hGt hQ.1 hQ.2 (hb_ (x3).toNat (by omega)).2.1.1 (hb_ (x3).toNat (by omega)).2.1.2 hpn hi1 hi2 hdue.2) (fun o36 v37 hq38 => ?_)
              obtain ⟨sc39, ai40, al41, az42, q43, ⟨hb44, ho45⟩, rfl, hK46, hM47⟩ := hq38
              have hs41 : sc39 41 = sc_ 41 := ho45.1.1 41 (by decide)
              refine w_if e93_115 (by omega) (fun (h48 : q43 ≠ 0) => ?_) (fun (h48 : q43 = 0) => ?_)
              ·
                obtain ⟨_, g9, hst9, hgL, hgg⟩ := ho45.2.2.resolve_left (fun h9 => by have := h9.1; omega)
                refine w_ldA e93_120 (fun _ => rfl) rfl ?_
                refine w_x e93_121 (fun _ => rfl) ?_
                have e49 := tm_o hM47
                refine w_get e93_122 e49 rfl ?_
                refine w_kI e93_125 ?_
                refine w_iadd e93_126 ?_
                refine w_put e93_127 e49 (Nat.le_of_ble_eq_true rfl) rfl (fun v52 b50 h51 => ?_)
                obtain ⟨sc53, hd55, hM54⟩ : ∃ z, z = u1 sc39 41 ((sc39 41) + 1) ∧ tm z ai40 al41 az42 v0 v52 := ⟨_, rfl, tm_ps 41 hM47 (by omega) b50 h51⟩
                have hs42 : sc53 41 = sc_ 41 + 1 := by rw [hd55, u1_s, hs41]
                refine w_x e93_130 (fun _ => rfl) ?_
                exact w_sub (A1 := [some (.ref 238), some (.int (vz i1)), some (.int (vz i2)), some (.int (vz x3)), some (.int (vz x4)), some (.int (vz x5))]) (And.intro rfl (And.intro rfl (And.intro rfl (And.intro rfl (And.intro rfl (And.intro rfl trivial)))))) ((ih.2) v52 sc53 ai40 al41 az42 x3 x4 x5 hM54 hK46 (by omega) hx4 hx5 (rdJ_s (by omega) hre hRH (by omega) hdue hst9 ⟨hgL, hgg⟩ ho45.2.1 ho45.1 (by rw [ho45.1.1 41 (by decide)]) hd55) hi1 hi2 (by omega))
              ·
                obtain ⟨_, hno9⟩ := ho45.2.2.resolve_right (fun h9 => by have := h9.1; omega)
                refine w_kI e93_118 ?_
                exact w_rz e93_119 rfl (by omega) ⟨sc39, ai40, al41, az42, 0, rdR_f ho45.2.1 h41.1 hre (rH_tr hRH (rH_F ho45.1)) (by rw [ho45.1.1 41 (by decide)]) (by rw [show (x3 + 1).toNat = (x3).toNat + 1 by omega]; exact rd_f hdue hno9), rfl, hK46, hM47⟩
            ·
              refine w_ldA e93_84 (fun _ => rfl) rfl ?_
              refine w_ldI e93_85 (fun _ => rfl) rfl ?_
              refine w_ldA e93_86 (fun _ => rfl) rfl ?_
              refine w_kB e93_87 rfl ?_
              refine w_ldI e93_89 (fun _ => rfl) rfl ?_
              refine w_cv e93_91 (by decide) rfl e23 rfl (Nat.le_of_ble_eq_true rfl) (Nat.le_of_ble_eq_true rfl) (Nat.le_of_ble_eq_true rfl) (by decide) (by decide) (c85 hM hK_ (by omega) hx4) (fun o56 v57 hq58 => ?_)
              obtain ⟨rfl, rfl⟩ := hq58
              have hp59 := dgf_bd (al_ 244) (60 * ((69 : Int))).toNat x4 (ai_ 242 ((69 : Int)).toNat).toNat
              show vm_Wp _ _ _ 94 _ [.int (vz (dgf (al_ 244) (60 * ((69 : Int))).toNat x4 (ai_ 242 ((69 : Int)).toNat).toNat)), .int (vz x3), .ref 238] _ _
              refine w_ldI e93_94 (fun _ => rfl) rfl ?_
              refine w_ldI e93_96 (fun _ => rfl) rfl ?_
              exfalso; omega
          ·
            refine w_kI e93_78 ?_
            exact w_rz e93_79 rfl (by omega) ⟨sc_, ai_, al_, az_, 0, rdR_f hGt h41.1 hre hRH rfl (by rw [show (x3 + 1).toNat = (x3).toNat + 1 by omega, show (i2).toNat - (sc_ 41).toNat = 0 by omega]; exact rd_0 hdue), rfl, hK_, hM⟩
set_option maxRecDepth 100000 in
set_option maxHeartbeats 4000000 in
theorem r93 {sc : Nat → Int} {ai : Nat → Nat → Int} {al : Nat → Nat → Int64} {az : Nat → Nat → Int32} {v0 vh : vm_H} (hM : tm sc ai al az v0 vh) (hK : tmok ai) {i1 : Int} (hi_1 : 0 ≤ i1 ∧ i1 ≤ 1) {i2 : Int} (hi_2 : 0 ≤ i2 ∧ i2 ≤ 200) {fr : Nat → Bool} {V : Nat → Nat} {nv n : Nat} {S : Nat → Po × Nat × Nat} {f0 : Po} (hv : sc 1 = (nv : Int)) (hvr : vR ai = V) (hfr : frR az ai = fr) (hV : pmV V nv) (hG0 : tbG V nv sc ai al az []) (hL : qL V nv ai al 69 f0) (hg : gk nv f0) (hb : bsQ fr V nv ai al n S) (hn : sc 40 = (n : Int)) (hn8 : n ≤ 8) (hk0 : i1 = 0) : vm_Rp 5 132 93 [.ref 238, .int (vz i1), .int (vz i2)] vh (fun r v1 => ∃ (sc1 : Nat → Int) (ai1 : Nat → Nat → Int) (al1 : Nat → Nat → Int64) (az1 : Nat → Nat → Int32) (q : Int), rdR V nv (rdP S (i2).toNat n f0) sc sc1 ai ai1 al al1 az az1 q ∧ r = some (.int (vz q)) ∧ tmok ai1 ∧ tm sc1 ai1 al1 az1 v0 v1) := by
  refine w_in (m := 3) ?_
  show vm_Wp _ _ _ 0 [some (.ref 238), some (.int (vz i1)), some (.int (vz i2)), none, none, none] [] _ _
  refine w_ldA e93_0 (fun _ => rfl) rfl ?_
  refine w_kI e93_1 ?_
  have e1 := tm_o hM
  refine w_put e93_2 e1 (Nat.le_of_ble_eq_true rfl) rfl (fun v4 b2 h3 => ?_)
  obtain ⟨sc5, hd7, hM6⟩ : ∃ z, z = u1 sc 41 (0) ∧ tm z ai al az v0 v4 := ⟨_, rfl, tm_ps 41 hM (by omega) b2 h3⟩
  have hs40 : sc5 40 = sc 40 := by rw [hd7, u1_o (by decide)]
  refine w_ldA e93_5 (fun _ => rfl) rfl ?_
  have e8 := tm_o hM6
  refine w_get e93_6 e8 rfl ?_
  refine w_kI e93_9 ?_
  refine w_isub e93_10 ?_
  refine w_stI (j := 3) (A1 := [some (.ref 238), some (.int (vz i1)), some (.int (vz i2)), some (.int (vz ((sc5 40) - 1))), none, none]) e93_11 (fun _ => rfl) (by decide) rfl ?_
  exact w_sub (A1 := [some (.ref 238), some (.int (vz i1)), some (.int (vz i2)), some (.int (vz ((sc5 40) - 1))), none, none]) (And.intro rfl (And.intro rfl (And.intro rfl (And.intro rfl trivial)))) (((r93_L (sc := sc) (ai := ai) (al := al) (az := az) (v0 := v0) (i1 := i1) (i2 := i2) (fr := fr) (V := V) (nv := nv) (n := n) (S := S) (f0 := f0) hK hi_1 hi_2 hv hvr hfr hV hG0 hL hg hb hn hn8 hk0 _).1) v4 sc5 ai al az ((sc5 40) - 1) hM6 hK (by omega) (rdJ_0 hL hg hG0 hd7 (by omega)) (Nat.lt_succ_self _))
