set_option maxRecDepth 100000 in
set_option maxHeartbeats 4000000 in
theorem r81_L {sc : Nat → Int} {ai : Nat → Nat → Int} {al : Nat → Nat → Int64} {az : Nat → Nat → Int32} {v0 : vm_H} (hK : tmok ai) {i1 : Int} (hi_1 : 0 ≤ i1 ∧ i1 < 72) {i2 : Int} (hi_2 : 0 ≤ i2 ∧ i2 < 72) {V : Nat → Nat} {nv : Nat} {l : Po} (hL : qL V nv ai al (i1).toNat l) (hne : i1 ≠ i2) : ∀ N : Nat, (∀ (vh : vm_H) (ai_ : Nat → Nat → Int) (al_ : Nat → Nat → Int64) (x3 : Int), (tm sc ai_ al_ az v0 vh) → (tmok ai_) → (0 ≤ x3 ∧ x3 ≤ ai 242 (i1).toNat) → (cpI al al_ (i1).toNat (i2).toNat x3) → (ai_ = u2 ai 242 (i2).toNat (ai 242 (i1).toNat)) → ((60 - x3 : Int).toNat < N) → vm_Wp 0 0 81 14 [some (.ref 238), some (.int (vz i1)), some (.int (vz i2)), some (.int (vz x3))] [] vh (vq_P 81 (fun r v1 => (∃ (al1 : Nat → Nat → Int64) (ai1 : Nat → Nat → Int), cpQ V nv ai ai1 al al1 (i2).toNat l ∧ tmok ai1 ∧ tm sc ai1 al1 az v0 v1) ∧ r = none))) := by
  have hcg := hK.1 (i1).toNat
  intro N
  induction N with
  | zero => exact (by intros; omega)
  | succ N ih =>
    ·
      intro vh ai_ al_ x3 hM hK_ hx3 hi0q hi1 hN
      have hai : ai_ 242 (i1).toNat = ai 242 (i1).toNat := by rw [hi1, u2_o (by omega)]
      refine w_ldI e81_14 (fun _ => rfl) rfl ?_
      refine w_ldA e81_15 (fun _ => rfl) rfl ?_
      have e11 := tm_o hM
      refine w_get e81_16 e11 rfl ?_
      refine w_ldI e81_19 (fun _ => rfl) rfl ?_
      have e12 := tm_i hM (a := 242) (n := 72) rfl
      refine w_ald e81_20 e12 (by omega) (by omega) (by decide) ?_
      show vm_Wp _ _ _ 21 _ [.int (vz (ai_ 242 (i1).toNat)), .int (vz x3)] _ _
      have hk13 := hK_.1 (i1).toNat
      refine w_ic e81_21 (by omega) (tm_r hM 242 (i1).toNat) (fun (h14 : ai_ 242 (i1).toNat ≤ x3) => ?_) (fun (h14 : x3 < ai_ 242 (i1).toNat) => ?_)
      ·
        exact w_rv e81_74 rfl ⟨⟨al_, ai_, cpQ_e hi0q hL (by omega) hcg.2 rfl hi1, hK_, hM⟩, rfl⟩
      ·
        refine w_ldA e81_24 (fun _ => rfl) rfl ?_
        refine w_get e81_25 e11 rfl ?_
        refine w_kB e81_28 rfl ?_
        refine w_ldI e81_30 (fun _ => rfl) rfl ?_
        refine w_imul e81_31 ?_
        refine w_ldI e81_32 (fun _ => rfl) rfl ?_
        refine w_iadd e81_33 ?_
        refine w_ldA e81_34 (fun _ => rfl) rfl ?_
        refine w_get e81_35 e11 rfl ?_
        refine w_kB e81_38 rfl ?_
        refine w_ldI e81_40 (fun _ => rfl) rfl ?_
        refine w_imul e81_41 ?_
        refine w_ldI e81_42 (fun _ => rfl) rfl ?_
        refine w_iadd e81_43 ?_
        have e15 := tm_l hM (a := 243) (n := 4320) rfl
        refine w_lld e81_44 e15 (by omega) (by omega) (by decide) ?_
        refine w_lst e81_45 e15 (by omega) (by omega) (by decide) (fun v18 b16 h17 => ?_)
        obtain ⟨al19, hd21, hM20⟩ : ∃ z, z = u2 al_ 243 ((60 * i2) + x3).toNat ((al_ 243 ((60 * i1) + x3).toNat)) ∧ tm sc ai_ z az v0 v18 := ⟨_, rfl, tm_pl hM rfl b16 h17⟩
        refine w_ldA e81_46 (fun _ => rfl) rfl ?_
        have e22 := tm_o hM20
        refine w_get e81_47 e22 rfl ?_
        refine w_kB e81_50 rfl ?_
        refine w_ldI e81_52 (fun _ => rfl) rfl ?_
        refine w_imul e81_53 ?_
        refine w_ldI e81_54 (fun _ => rfl) rfl ?_
        refine w_iadd e81_55 ?_
        refine w_ldA e81_56 (fun _ => rfl) rfl ?_
        refine w_get e81_57 e22 rfl ?_
        refine w_kB e81_60 rfl ?_
        refine w_ldI e81_62 (fun _ => rfl) rfl ?_
        refine w_imul e81_63 ?_
        refine w_ldI e81_64 (fun _ => rfl) rfl ?_
        refine w_iadd e81_65 ?_
        have e23 := tm_l hM20 (a := 244) (n := 4320) rfl
        refine w_lld e81_66 e23 (by omega) (by omega) (by decide) ?_
        refine w_lst e81_67 e23 (by omega) (by omega) (by decide) (fun v26 b24 h25 => ?_)
        obtain ⟨al27, hd29, hM28⟩ : ∃ z, z = u2 al19 244 ((60 * i2) + x3).toNat ((al19 244 ((60 * i1) + x3).toNat)) ∧ tm sc ai_ z az v0 v26 := ⟨_, rfl, tm_pl hM20 rfl b24 h25⟩
        refine w_iinc (A1 := [some (.ref 238), some (.int (vz i1)), some (.int (vz i2)), some (.int (vz (x3 + 1)))]) e81_68 rfl (by decide) rfl ?_
        refine w_x e81_71 (fun _ => rfl) ?_
        exact w_sub (A1 := [some (.ref 238), some (.int (vz i1)), some (.int (vz i2)), some (.int (vz (x3 + 1)))]) (And.intro rfl (And.intro rfl (And.intro rfl (And.intro rfl trivial)))) ((ih) v26 ai_ al27 (x3 + 1) hM28 hK_ (by omega) (cpI_s hi0q (by omega) (by omega) (pr_ix hi_2.1 hx3.1) (pr_ix hi_1.1 hx3.1) hd21 hd29) hi1 (by omega))
set_option maxRecDepth 100000 in
set_option maxHeartbeats 4000000 in
theorem r81 {sc : Nat → Int} {ai : Nat → Nat → Int} {al : Nat → Nat → Int64} {az : Nat → Nat → Int32} {v0 vh : vm_H} (hM : tm sc ai al az v0 vh) (hK : tmok ai) {i1 : Int} (hi_1 : 0 ≤ i1 ∧ i1 < 72) {i2 : Int} (hi_2 : 0 ≤ i2 ∧ i2 < 72) {V : Nat → Nat} {nv : Nat} {l : Po} (hL : qL V nv ai al (i1).toNat l) (hne : i1 ≠ i2) : vm_Rp 0 0 81 [.ref 238, .int (vz i1), .int (vz i2)] vh (fun r v1 => (∃ (al1 : Nat → Nat → Int64) (ai1 : Nat → Nat → Int), cpQ V nv ai ai1 al al1 (i2).toNat l ∧ tmok ai1 ∧ tm sc ai1 al1 az v0 v1) ∧ r = none) := by
  have hcg := hK.1 (i1).toNat
  refine w_in (m := 1) ?_
  show vm_Wp _ _ _ 0 [some (.ref 238), some (.int (vz i1)), some (.int (vz i2)), none] [] _ _
  refine w_ldA e81_0 (fun _ => rfl) rfl ?_
  have e1 := tm_o hM
  refine w_get e81_1 e1 rfl ?_
  refine w_ldI e81_4 (fun _ => rfl) rfl ?_
  refine w_ldA e81_5 (fun _ => rfl) rfl ?_
  refine w_get e81_6 e1 rfl ?_
  refine w_ldI e81_9 (fun _ => rfl) rfl ?_
  have e2 := tm_i hM (a := 242) (n := 72) rfl
  refine w_ald e81_10 e2 (by omega) (by omega) (by decide) ?_
  show vm_Wp _ _ _ 11 _ [.int (vz (ai 242 (i1).toNat)), .int (vz i2), .ref 242] _ _
  have hk3 := hK.1 (i1).toNat
  refine w_ast e81_11 e2 (by omega) (by omega) (by decide) (by decide) (fun v6 b4 h5 => ?_)
  obtain ⟨ai7, hd9, hM8⟩ : ∃ z, z = u2 ai 242 (i2).toNat (ai 242 (i1).toNat) ∧ tm sc z al az v0 v6 := ⟨_, rfl, tm_pi hM rfl (tm_r hM 242 (i1).toNat) b4 h5⟩
  have hK10 : tmok ai7 := by rw [hd9]; exact tmok_c hK (by omega)
  refine w_kI e81_12 ?_
  refine w_stI (j := 3) (A1 := [some (.ref 238), some (.int (vz i1)), some (.int (vz i2)), some (.int (vz 0))]) e81_13 (fun _ => rfl) (by decide) rfl ?_
  exact w_sub (A1 := [some (.ref 238), some (.int (vz i1)), some (.int (vz i2)), some (.int (vz 0))]) (And.intro rfl (And.intro rfl (And.intro rfl (And.intro rfl trivial)))) (((r81_L (sc := sc) (ai := ai) (al := al) (az := az) (v0 := v0) (i1 := i1) (i2 := i2) (V := V) (nv := nv) (l := l) hK hi_1 hi_2 hL hne _)) v6 ai7 al 0 hM8 hK10 (by omega) cpI_0 hd9 (Nat.lt_succ_self _))
set_option maxRecDepth 100000 in
set_option maxHeartbeats 4000000 in
theorem r94 {sc : Nat → Int} {ai : Nat → Nat → Int} {al : Nat → Nat → Int64} {az : Nat → Nat → Int32} {v0 vh : vm_H} (hM : tm sc ai al az v0 vh) (hK : tmok ai) {i1 : Int} (hi_1 : 0 ≤ i1 ∧ i1 < 72) {i2 : Int} (hi_2 : 0 ≤ i2 ∧ i2 < 72) {fr : Nat → Bool} {V : Nat → Nat} {nv : Nat} (hv : sc 1 = (nv : Int)) (hvr : vR ai = V) (hfr : frR az ai = fr) (hV : pmV V nv) {f g : Po} (hLf : qL V nv ai al (i1).toNat f) (hLg : qL V nv ai al (i2).toNat g) (hnf : plP fr nv f ≠ -1) (hng : plP fr nv g ≠ -1) : vm_Rp 3 69 94 [.ref 238, .int (vz i1), .int (vz i2)] vh (fun r v1 => vh = v1 ∧ ∃ q : Int, ((0 ≤ q ∧ q ≤ 1) ∧ (q = 1 ↔ ltP fr nv f g = true)) ∧ r = some (.int (vz q))) := by
  have hVn := hV.1
  have hf1 := hLf.1
  have hg1 := hLg.1
  have hpf := pl_bd (fr := fr) (nv := nv) (f := f)
  have hpg := pl_bd (fr := fr) (nv := nv) (f := g)
  refine w_in (m := 4) ?_
  show vm_Wp _ _ _ 0 [some (.ref 238), some (.int (vz i1)), some (.int (vz i2)), none, none, none, none] [] _ _
  refine w_ldA e94_0 (fun _ => rfl) rfl ?_
  refine w_ldI e94_1 (fun _ => rfl) rfl ?_
  have e1 := tm_o hM
  refine w_cv e94_2 (by decide) rfl e1 rfl (Nat.le_of_ble_eq_true rfl) (Nat.le_of_ble_eq_true rfl) (Nat.le_of_ble_eq_true rfl) (by decide) (by decide) (c86 hM hK (by omega) (by omega)) (fun o2 v3 hq4 => ?_)
  obtain ⟨rfl, rfl⟩ := hq4
  have hp5 := mpf_bd (az 239) (ai 240) (fun v => dgf (al 244) (60 * i1).toNat v (ai 242 (i1).toNat).toNat) (sc 1).toNat
  show vm_Wp _ _ _ 5 _ [.int (vz (mpf (az 239) (ai 240) (fun v => dgf (al 244) (60 * i1).toNat v (ai 242 (i1).toNat).toNat) (sc 1).toNat))] _ _
  have hmp1 : mpf (az 239) (ai 240) (fun v => dgf (al 244) (60 * i1).toNat v (ai 242 (i1).toNat).toNat) (sc 1).toNat = plP fr nv f := by rw [re_mp hLf hV hvr hK hv (by omega), hfr]
  refine w_stI (j := 3) (A1 := [some (.ref 238), some (.int (vz i1)), some (.int (vz i2)), some (.int (vz (mpf (az 239) (ai 240) (fun v => dgf (al 244) (60 * i1).toNat v (ai 242 (i1).toNat).toNat) (sc 1).toNat))), none, none, none]) e94_5 (fun _ => rfl) (by decide) rfl ?_
  refine w_ldA e94_6 (fun _ => rfl) rfl ?_
  refine w_ldI e94_7 (fun _ => rfl) rfl ?_
  refine w_cv e94_8 (by decide) rfl e1 rfl (Nat.le_of_ble_eq_true rfl) (Nat.le_of_ble_eq_true rfl) (Nat.le_of_ble_eq_true rfl) (by decide) (by decide) (c86 hM hK (by omega) (by omega)) (fun o6 v7 hq8 => ?_)
  obtain ⟨rfl, rfl⟩ := hq8
  have hp9 := mpf_bd (az 239) (ai 240) (fun v => dgf (al 244) (60 * i2).toNat v (ai 242 (i2).toNat).toNat) (sc 1).toNat
  show vm_Wp _ _ _ 11 _ [.int (vz (mpf (az 239) (ai 240) (fun v => dgf (al 244) (60 * i2).toNat v (ai 242 (i2).toNat).toNat) (sc 1).toNat))] _ _
  have hmp2 : mpf (az 239) (ai 240) (fun v => dgf (al 244) (60 * i2).toNat v (ai 242 (i2).toNat).toNat) (sc 1).toNat = plP fr nv g := by rw [re_mp hLg hV hvr hK hv (by omega), hfr]
  refine w_stI (j := 4) (A1 := [some (.ref 238), some (.int (vz i1)), some (.int (vz i2)), some (.int (vz (mpf (az 239) (ai 240) (fun v => dgf (al 244) (60 * i1).toNat v (ai 242 (i1).toNat).toNat) (sc 1).toNat))), some (.int (vz (mpf (az 239) (ai 240) (fun v => dgf (al 244) (60 * i2).toNat v (ai 242 (i2).toNat).toNat) (sc 1).toNat))), none, none]) e94_11 (fun _ => rfl) (by decide) rfl ?_
  refine w_ldI e94_13 (fun _ => rfl) rfl ?_
  refine w_ldI e94_14 (fun _ => rfl) rfl ?_
  refine w_ic e94_16 (by omega) (by omega) (fun (h10 : mpf (az 239) (ai 240) (fun v => dgf (al 244) (60 * i1).toNat v (ai 242 (i1).toNat).toNat) (sc 1).toNat = mpf (az 239) (ai 240) (fun v => dgf (al 244) (60 * i2).toNat v (ai 242 (i2).toNat).toNat) (sc 1).toNat) => ?_) (fun (h10 : mpf (az 239) (ai 240) (fun v => dgf (al 244) (60 * i1).toNat v (ai 242 (i1).toNat).toNat) (sc 1).toNat ≠ mpf (az 239) (ai 240) (fun v => dgf (al 244) (60 * i2).toNat v (ai 242 (i2).toNat).toNat) (sc 1).toNat) => ?_)
  ·
    refine w_ldA e94_31 (fun _ => rfl) rfl ?_
    refine w_ldI e94_32 (fun _ => rfl) rfl ?_
    refine w_ldA e94_33 (fun _ => rfl) rfl ?_
    refine w_get e94_34 e1 rfl ?_
    refine w_ldI e94_37 (fun _ => rfl) rfl ?_
    have e11 := tm_i hM (a := 240) (n := 8) rfl
    refine w_ald e94_38 e11 (by omega) (by omega) (by decide) ?_
    show vm_Wp _ _ _ 39 _ [.int (vz (ai 240 (mpf (az 239) (ai 240) (fun v => dgf (al 244) (60 * i1).toNat v (ai 242 (i1).toNat).toNat) (sc 1).toNat).toNat)), .int (vz i1), .ref 238] _ _
    have hk12 := hK.2 (mpf (az 239) (ai 240) (fun v => dgf (al 244) (60 * i1).toNat v (ai 242 (i1).toNat).toNat) (sc 1).toNat).toNat
    have hv1 : ai 240 (mpf (az 239) (ai 240) (fun v => dgf (al 244) (60 * i1).toNat v (ai 242 (i1).toNat).toNat) (sc 1).toNat).toNat = (V (plP fr nv f).toNat : Int) := by rw [hmp1]; exact re_o hK hvr
    refine w_cv e94_39 (by decide) rfl e1 rfl (Nat.le_of_ble_eq_true rfl) (Nat.le_of_ble_eq_true rfl) (Nat.le_of_ble_eq_true rfl) (by decide) (by decide) (c85 hM hK (by omega) (tm_r hM 240 (mpf (az 239) (ai 240) (fun v => dgf (al 244) (60 * i1).toNat v (ai 242 (i1).toNat).toNat) (sc 1).toNat).toNat)) (fun o13 v14 hq15 => ?_)
    obtain ⟨rfl, rfl⟩ := hq15
    have hp16 := dgf_bd (al 244) (60 * i1).toNat (ai 240 (mpf (az 239) (ai 240) (fun v => dgf (al 244) (60 * i1).toNat v (ai 242 (i1).toNat).toNat) (sc 1).toNat).toNat) (ai 242 (i1).toNat).toNat
    show vm_Wp _ _ _ 42 _ [.int (vz (dgf (al 244) (60 * i1).toNat (ai 240 (mpf (az 239) (ai 240) (fun v => dgf (al 244) (60 * i1).toNat v (ai 242 (i1).toNat).toNat) (sc 1).toNat).toNat) (ai 242 (i1).toNat).toNat))] _ _
    have hd1 : dgf (al 244) (60 * i1).toNat (ai 240 (mpf (az 239) (ai 240) (fun v => dgf (al 244) (60 * i1).toNat v (ai 242 (i1).toNat).toNat) (sc 1).toNat).toNat) (ai 242 (i1).toNat).toNat = (dmP fr nv f : Int) := qL_dg hLf hV (by omega) hv1 (by omega)
    refine w_stI (j := 5) (A1 := [some (.ref 238), some (.int (vz i1)), some (.int (vz i2)), some (.int (vz (mpf (az 239) (ai 240) (fun v => dgf (al 244) (60 * i1).toNat v (ai 242 (i1).toNat).toNat) (sc 1).toNat))), some (.int (vz (mpf (az 239) (ai 240) (fun v => dgf (al 244) (60 * i2).toNat v (ai 242 (i2).toNat).toNat) (sc 1).toNat))), some (.int (vz (dgf (al 244) (60 * i1).toNat (ai 240 (mpf (az 239) (ai 240) (fun v => dgf (al 244) (60 * i1).toNat v (ai 242 (i1).toNat).toNat) (sc 1).toNat).toNat) (ai 242 (i1).toNat).toNat))), none]) e94_42 (fun _ => rfl) (by decide) rfl ?_
    refine w_ldA e94_44 (fun _ => rfl) rfl ?_
    refine w_ldI e94_45 (fun _ => rfl) rfl ?_
    refine w_ldA e94_46 (fun _ => rfl) rfl ?_
    refine w_get e94_47 e1 rfl ?_
    refine w_ldI e94_50 (fun _ => rfl) rfl ?_
    refine w_ald e94_52 e11 (by omega) (by omega) (by decide) ?_
    show vm_Wp _ _ _ 53 _ [.int (vz (ai 240 (mpf (az 239) (ai 240) (fun v => dgf (al 244) (60 * i2).toNat v (ai 242 (i2).toNat).toNat) (sc 1).toNat).toNat)), .int (vz i2), .ref 238] _ _
    have hk17 := hK.2 (mpf (az 239) (ai 240) (fun v => dgf (al 244) (60 * i2).toNat v (ai 242 (i2).toNat).toNat) (sc 1).toNat).toNat
    have hv2 : ai 240 (mpf (az 239) (ai 240) (fun v => dgf (al 244) (60 * i2).toNat v (ai 242 (i2).toNat).toNat) (sc 1).toNat).toNat = (V (plP fr nv g).toNat : Int) := by rw [hmp2]; exact re_o hK hvr
    refine w_cv e94_53 (by decide) rfl e1 rfl (Nat.le_of_ble_eq_true rfl) (Nat.le_of_ble_eq_true rfl) (Nat.le_of_ble_eq_true rfl) (by decide) (by decide) (c85 hM hK (by omega) (tm_r hM 240 (mpf (az 239) (ai 240) (fun v => dgf (al 244) (60 * i2).toNat v (ai 242 (i2).toNat).toNat) (sc 1).toNat).toNat)) (fun o18 v19 hq20 => ?_)
    obtain ⟨rfl, rfl⟩ := hq20
    have hp21 := dgf_bd (al 244) (60 * i2).toNat (ai 240 (mpf (az 239) (ai 240) (fun v => dgf (al 244) (60 * i2).toNat v (ai 242 (i2).toNat).toNat) (sc 1).toNat).toNat) (ai 242 (i2).toNat).toNat
    show vm_Wp _ _ _ 56 _ [.int (vz (dgf (al 244) (60 * i2).toNat (ai 240 (mpf (az 239) (ai 240) (fun v => dgf (al 244) (60 * i2).toNat v (ai 242 (i2).toNat).toNat) (sc 1).toNat).toNat) (ai 242 (i2).toNat).toNat))] _ _
    have hd2 : dgf (al 244) (60 * i2).toNat (ai 240 (mpf (az 239) (ai 240) (fun v => dgf (al 244) (60 * i2).toNat v (ai 242 (i2).toNat).toNat) (sc 1).toNat).toNat) (ai 242 (i2).toNat).toNat = (dmP fr nv g : Int) := qL_dg hLg hV (by omega) hv2 (by omega)
    refine w_stI (j := 6) (A1 := [some (.ref 238), some (.int (vz i1)), some (.int (vz i2)), some (.int (vz (mpf (az 239) (ai 240) (fun v => dgf (al 244) (60 * i1).toNat v (ai 242 (i1).toNat).toNat) (sc 1).toNat))), some (.int (vz (mpf (az 239) (ai 240) (fun v => dgf (al 244) (60 * i2).toNat v (ai 242 (i2).toNat).toNat) (sc 1).toNat))), some (.int (vz (dgf (al 244) (60 * i1).toNat (ai 240 (mpf (az 239) (ai 240) (fun v => dgf (al 244) (60 * i1).toNat v (ai 242 (i1).toNat).toNat) (sc 1).toNat).toNat) (ai 242 (i1).toNat).toNat))), some (.int (vz (dgf (al 244) (60 * i2).toNat (ai 240 (mpf (az 239) (ai 240) (fun v => dgf (al 244) (60 * i2).toNat v (ai 242 (i2).toNat).toNat) (sc 1).toNat).toNat) (ai 242 (i2).toNat).toNat)))]) e94_56 (fun _ => rfl) (by decide) rfl ?_
    refine w_ldI e94_58 (fun _ => rfl) rfl ?_
    refine w_ldI e94_60 (fun _ => rfl) rfl ?_
    refine w_ic e94_62 (by omega) (by omega) (fun (h22 : dgf (al 244) (60 * i1).toNat (ai 240 (mpf (az 239) (ai 240) (fun v => dgf (al 244) (60 * i1).toNat v (ai 242 (i1).toNat).toNat) (sc 1).toNat).toNat) (ai 242 (i1).toNat).toNat = dgf (al 244) (60 * i2).toNat (ai 240 (mpf (az 239) (ai 240) (fun v => dgf (al 244) (60 * i2).toNat v (ai 242 (i2).toNat).toNat) (sc 1).toNat).toNat) (ai 242 (i2).toNat).toNat) => ?_) (fun (h22 : dgf (al 244) (60 * i1).toNat (ai 240 (mpf (az 239) (ai 240) (fun v => dgf (al 244) (60 * i1).toNat v (ai 242 (i1).toNat).toNat) (sc 1).toNat).toNat) (ai 242 (i1).toNat).toNat ≠ dgf (al 244) (60 * i2).toNat (ai 240 (mpf (az 239) (ai 240) (fun v => dgf (al 244) (60 * i2).toNat v (ai 242 (i2).toNat).toNat) (sc 1).toNat).toNat) (ai 242 (i2).toNat).toNat) => ?_)
    ·
      refine w_ldA e94_80 (fun _ => rfl) rfl ?_
      refine w_get e94_81 e1 rfl ?_
      refine w_ldI e94_84 (fun _ => rfl) rfl ?_
      have e23 := tm_i hM (a := 242) (n := 72) rfl
      refine w_ald e94_85 e23 (by omega) (by omega) (by decide) ?_
      show vm_Wp _ _ _ 86 _ [.int (vz (ai 242 (i1).toNat))] _ _
      have hk24 := hK.1 (i1).toNat
      refine w_ldA e94_86 (fun _ => rfl) rfl ?_
      refine w_get e94_87 e1 rfl ?_
      refine w_ldI e94_90 (fun _ => rfl) rfl ?_
      refine w_ald e94_91 e23 (by omega) (by omega) (by decide) ?_
      show vm_Wp _ _ _ 92 _ [.int (vz (ai 242 (i2).toNat)), .int (vz (ai 242 (i1).toNat))] _ _
      have hk25 := hK.1 (i2).toNat
      refine w_ic e94_92 (tm_r hM 242 (i1).toNat) (tm_r hM 242 (i2).toNat) (fun (h26 : ai 242 (i2).toNat ≤ ai 242 (i1).toNat) => ?_) (fun (h26 : ai 242 (i1).toNat < ai 242 (i2).toNat) => ?_)
      ·
        refine w_kI e94_99 ?_
        exact w_rz e94_100 rfl (by omega) ⟨rfl, 0, ⟨by omega, lt_q hmp1 hmp2 (Or.inr ⟨by omega, ⟨hd1, hd2⟩, Or.inr ⟨by omega, ⟨hf1, hg1⟩, by omega⟩⟩)⟩, rfl⟩
      ·
        refine w_kI e94_95 ?_
        refine w_x e94_96 (fun _ => rfl) ?_
        exact w_rz e94_100 rfl (by omega) ⟨rfl, 1, ⟨by omega, lt_q hmp1 hmp2 (Or.inr ⟨by omega, ⟨hd1, hd2⟩, Or.inr ⟨by omega, ⟨hf1, hg1⟩, by omega⟩⟩)⟩, rfl⟩
    ·
      refine w_ldI e94_65 (fun _ => rfl) rfl ?_
      refine w_ldI e94_67 (fun _ => rfl) rfl ?_
      refine w_ic e94_69 (by omega) (by omega) (fun (h27 : dgf (al 244) (60 * i2).toNat (ai 240 (mpf (az 239) (ai 240) (fun v => dgf (al 244) (60 * i2).toNat v (ai 242 (i2).toNat).toNat) (sc 1).toNat).toNat) (ai 242 (i2).toNat).toNat ≤ dgf (al 244) (60 * i1).toNat (ai 240 (mpf (az 239) (ai 240) (fun v => dgf (al 244) (60 * i1).toNat v (ai 242 (i1).toNat).toNat) (sc 1).toNat).toNat) (ai 242 (i1).toNat).toNat) => ?_) (fun (h27 : dgf (al 244) (60 * i1).toNat (ai 240 (mpf (az 239) (ai 240) (fun v => dgf (al 244) (60 * i1).toNat v (ai 242 (i1).toNat).toNat) (sc 1).toNat).toNat) (ai 242 (i1).toNat).toNat < dgf (al 244) (60 * i2).toNat (ai 240 (mpf (az 239) (ai 240) (fun v => dgf (al 244) (60 * i2).toNat v (ai 242 (i2).toNat).toNat) (sc 1).toNat).toNat) (ai 242 (i2).toNat).toNat) => ?_)
      ·
        refine w_kI e94_76 ?_
        refine w_x e94_77 (fun _ => rfl) ?_
        exact w_rz e94_100 rfl (by omega) ⟨rfl, 0, ⟨by omega, lt_q (n1 := 0) (n2 := 0) hmp1 hmp2 (Or.inr ⟨by omega, ⟨hd1, hd2⟩, Or.inl ⟨by omega, by omega⟩⟩)⟩, rfl⟩
      ·
        refine w_kI e94_72 ?_
        refine w_x e94_73 (fun _ => rfl) ?_
        exact w_rz e94_100 rfl (by omega) ⟨rfl, 1, ⟨by omega, lt_q (n1 := 0) (n2 := 0) hmp1 hmp2 (Or.inr ⟨by omega, ⟨hd1, hd2⟩, Or.inl ⟨by omega, by omega⟩⟩)⟩, rfl⟩
  ·
    refine w_ldI e94_19 (fun _ => rfl) rfl ?_
    refine w_ldI e94_20 (fun _ => rfl) rfl ?_
    refine w_ic e94_22 (by omega) (by omega) (fun (h28 : mpf (az 239) (ai 240) (fun v => dgf (al 244) (60 * i2).toNat v (ai 242 (i2).toNat).toNat) (sc 1).toNat ≤ mpf (az 239) (ai 240) (fun v => dgf (al 244) (60 * i1).toNat v (ai 242 (i1).toNat).toNat) (sc 1).toNat) => ?_) (fun (h28 : mpf (az 239) (ai 240) (fun v => dgf (al 244) (60 * i1).toNat v (ai 242 (i1).toNat).toNat) (sc 1).toNat < mpf (az 239) (ai 240) (fun v => dgf (al 244) (60 * i2).toNat v (ai 242 (i2).toNat).toNat) (sc 1).toNat) => ?_)
    ·
      refine w_kI e94_29 ?_
      exact w_rz e94_30 rfl (by omega) ⟨rfl, 0, ⟨by omega, lt_q (d1 := 0) (d2 := 0) (n1 := 0) (n2 := 0) hmp1 hmp2 (Or.inl ⟨by omega, by omega⟩)⟩, rfl⟩
    ·
      refine w_kI e94_25 ?_
      refine w_x e94_26 (fun _ => rfl) ?_
      exact w_rz e94_30 rfl (by omega) ⟨rfl, 1, ⟨by omega, lt_q (d1 := 0) (d2 := 0) (n1 := 0) (n2 := 0) hmp1 hmp2 (Or.inl ⟨by omega, by omega⟩)⟩, rfl⟩
set_option maxRecDepth 100000 in
set_option maxHeartbeats 4000000 in
theorem r95_L {sc : Nat → Int} {ai : Nat → Nat → Int} {al : Nat → Nat → Int64} {az : Nat → Nat → Int32} {v0 vh : vm_H} (hM : tm sc ai al az v0 vh) (hK : tmok ai) {i1 : Int} (hi_1 : 0 ≤ i1 ∧ i1 < 72) {fr : Nat → Bool} {V : Nat → Nat} {nv : Nat} (hv : sc 1 = (nv : Int)) (hvr : vR ai = V) (hfr : frR az ai = fr) (hV : pmV V nv) {c : Nat} {R : Nat → Po} (hR : rwQ V nv ai al R c) (hNn : ∀ r, r < c → plP fr nv (R r) ≠ -1) (hc : c ≤ 40) {m : Nat} {B : List Nat} (hm : mbQ sc ai B c) (hr : m < c) (hir : i1 = 16 + (m : Int)) : ∀ N : Nat, (∀ (x2 : Int) (x3 : Int), (0 ≤ x2 ∧ x2 ≤ 1) → (0 ≤ x3 ∧ x3 ≤ sc 40) → (x2 = 1 ↔ ftH fr nv R B m (x3).toNat) → ((9 - x3 : Int).toNat < N) → vm_Wp 3 69 95 38 [some (.ref 238), some (.int (vz i1)), some (.int (vz x2)), some (.int (vz x3)), none] [] vh (vq_P 95 (fun r v1 => vh = v1 ∧ ∃ q : Int, ((0 ≤ q ∧ q ≤ 1) ∧ (q = 1 ↔ ftP fr nv R B m = true)) ∧ r = some (.int (vz q))))) := by
  have hVn := hV.1
  have hm1 := hm.1.1
  have hm2 := hm.1.2
  have hLr := (hR m hr).1
  have hpr := pl_bd (fr := fr) (nv := nv) (f := R m)
  have hnr := hNn m hr
  intro N
  induction N with
  | zero => exact (by intros; omega)
  | succ N ih =>
    ·
      intro x2 x3 hx2 hx3 hi0q hN
      refine w_ldI e95_38 (fun _ => rfl) rfl ?_
      refine w_ldA e95_39 (fun _ => rfl) rfl ?_
      have e13 := tm_o hM
      refine w_get e95_40 e13 rfl ?_
      refine w_ic e95_43 (by omega) (tm_s hM 40) (fun (h14 : sc 40 ≤ x3) => ?_) (fun (h14 : x3 < sc 40) => ?_)
      ·
        refine w_ldI e95_101 (fun _ => rfl) rfl ?_
        exact w_rz e95_102 rfl (by omega) ⟨rfl, x2, ⟨by omega, fth_r hi0q (by omega) (Or.inl (by omega))⟩, rfl⟩
      ·
        refine w_ldI e95_46 (fun _ => rfl) rfl ?_
        refine w_if e95_47 (by omega) (fun (h15 : x2 = 0) => ?_) (fun (h15 : x2 ≠ 0) => ?_)
        ·
          refine w_ldI e95_101 (fun _ => rfl) rfl ?_
          exact w_rz e95_102 rfl (by omega) ⟨rfl, x2, ⟨by omega, fth_r hi0q (by omega) (Or.inr (by omega))⟩, rfl⟩
        ·
          refine w_ldA e95_50 (fun _ => rfl) rfl ?_
          refine w_get e95_51 e13 rfl ?_
          refine w_ldA e95_54 (fun _ => rfl) rfl ?_
          refine w_ldA e95_55 (fun _ => rfl) rfl ?_
          refine w_get e95_56 e13 rfl ?_
          refine w_ldI e95_59 (fun _ => rfl) rfl ?_
          have e16 := tm_i hM (a := 261) (n := 8) rfl
          refine w_ald e95_60 e16 (by omega) (by omega) (by decide) ?_
          show vm_Wp _ _ _ 61 _ [.int (vz (ai 261 (x3).toNat)), .ref 238, .ref 240] _ _
          have hb8 := mq_b hm (x := x3) (by omega)
          refine w_cv e95_61 (by decide) rfl e13 rfl (Nat.le_of_ble_eq_true rfl) (Nat.le_of_ble_eq_true rfl) (Nat.le_of_ble_eq_true rfl) (by decide) (by decide) (c86 hM hK (by omega) (by omega)) (fun o17 v18 hq19 => ?_)
          obtain ⟨rfl, rfl⟩ := hq19
          have hp20 := mpf_bd (az 239) (ai 240) (fun v => dgf (al 244) (60 * (ai 261 (x3).toNat)).toNat v (ai 242 (ai 261 (x3).toNat).toNat).toNat) (sc 1).toNat
          show vm_Wp _ _ _ 64 _ [.int (vz (mpf (az 239) (ai 240) (fun v => dgf (al 244) (60 * (ai 261 (x3).toNat)).toNat v (ai 242 (ai 261 (x3).toNat).toNat).toNat) (sc 1).toNat)), .ref 240] _ _
          have hmq : mpf (az 239) (ai 240) (fun v => dgf (al 244) (60 * (ai 261 (x3).toNat)).toNat v (ai 242 (ai 261 (x3).toNat).toNat).toNat) (sc 1).toNat = plP fr nv (R (B.reverse.getD (x3).toNat 0)) := by rw [re_mp (hR _ hb8.2).1 hV hvr hK hv (by omega), hfr]
          have hpq := pl_bd (fr := fr) (nv := nv) (f := (R (B.reverse.getD (x3).toNat 0)))
          have hnq := hNn _ hb8.2
          have e21 := tm_i hM (a := 240) (n := 8) rfl
          refine w_ald e95_64 e21 (by omega) (by omega) (by decide) ?_
          show vm_Wp _ _ _ 65 _ [.int (vz (ai 240 (mpf (az 239) (ai 240) (fun v => dgf (al 244) (60 * (ai 261 (x3).toNat)).toNat v (ai 242 (ai 261 (x3).toNat).toNat).toNat) (sc 1).toNat).toNat))] _ _
          have hk22 := hK.2 (mpf (az 239) (ai 240) (fun v => dgf (al 244) (60 * (ai 261 (x3).toNat)).toNat v (ai 242 (ai 261 (x3).toNat).toNat).toNat) (sc 1).toNat).toNat
          have hvq : ai 240 (mpf (az 239) (ai 240) (fun v => dgf (al 244) (60 * (ai 261 (x3).toNat)).toNat v (ai 242 (ai 261 (x3).toNat).toNat).toNat) (sc 1).toNat).toNat = (V (plP fr nv (R (B.reverse.getD (x3).toNat 0))).toNat : Int) := by rw [hmq]; exact re_o hK hvr
          refine w_stI (j := 4) (A1 := [some (.ref 238), some (.int (vz i1)), some (.int (vz x2)), some (.int (vz x3)), some (.int (vz (ai 240 (mpf (az 239) (ai 240) (fun v => dgf (al 244) (60 * (ai 261 (x3).toNat)).toNat v (ai 242 (ai 261 (x3).toNat).toNat).toNat) (sc 1).toNat).toNat)))]) e95_65 (fun _ => rfl) (by decide) rfl ?_
          refine w_ldA e95_67 (fun _ => rfl) rfl ?_
          refine w_ldI e95_68 (fun _ => rfl) rfl ?_
          refine w_ldI e95_69 (fun _ => rfl) rfl ?_
          refine w_cv e95_71 (by decide) rfl e13 rfl (Nat.le_of_ble_eq_true rfl) (Nat.le_of_ble_eq_true rfl) (Nat.le_of_ble_eq_true rfl) (by decide) (by decide) (c85 hM hK (by omega) (tm_r hM 240 (mpf (az 239) (ai 240) (fun v => dgf (al 244) (60 * (ai 261 (x3).toNat)).toNat v (ai 242 (ai 261 (x3).toNat).toNat).toNat) (sc 1).toNat).toNat)) (fun o23 v24 hq25 => ?_)
          obtain ⟨rfl, rfl⟩ := hq25
          have hp26 := dgf_bd (al 244) (60 * i1).toNat (ai 240 (mpf (az 239) (ai 240) (fun v => dgf (al 244) (60 * (ai 261 (x3).toNat)).toNat v (ai 242 (ai 261 (x3).toNat).toNat).toNat) (sc 1).toNat).toNat) (ai 242 (i1).toNat).toNat
          show vm_Wp _ _ _ 74 _ [.int (vz (dgf (al 244) (60 * i1).toNat (ai 240 (mpf (az 239) (ai 240) (fun v => dgf (al 244) (60 * (ai 261 (x3).toNat)).toNat v (ai 242 (ai 261 (x3).toNat).toNat).toNat) (sc 1).toNat).toNat) (ai 242 (i1).toNat).toNat))] _ _
          have hd1 : dgf (al 244) (60 * i1).toNat (ai 240 (mpf (az 239) (ai 240) (fun v => dgf (al 244) (60 * (ai 261 (x3).toNat)).toNat v (ai 242 (ai 261 (x3).toNat).toNat).toNat) (sc 1).toNat).toNat) (ai 242 (i1).toNat).toNat = (dgP (R m) (plP fr nv (R (B.reverse.getD (x3).toNat 0))).toNat : Int) := qL_dg hLr hV (by omega) hvq (by omega)
          refine w_ldA e95_74 (fun _ => rfl) rfl ?_
          refine w_ldA e95_75 (fun _ => rfl) rfl ?_
          refine w_get e95_76 e13 rfl ?_
          refine w_ldI e95_79 (fun _ => rfl) rfl ?_
          refine w_ald e95_80 e16 (by omega) (by omega) (by decide) ?_
          show vm_Wp _ _ _ 81 _ [.int (vz (ai 261 (x3).toNat)), .ref 238, .int (vz (dgf (al 244) (60 * i1).toNat (ai 240 (mpf (az 239) (ai 240) (fun v => dgf (al 244) (60 * (ai 261 (x3).toNat)).toNat v (ai 242 (ai 261 (x3).toNat).toNat).toNat) (sc 1).toNat).toNat) (ai 242 (i1).toNat).toNat))] _ _
          refine w_ldI e95_81 (fun _ => rfl) rfl ?_
          refine w_cv e95_83 (by decide) rfl e13 rfl (Nat.le_of_ble_eq_true rfl) (Nat.le_of_ble_eq_true rfl) (Nat.le_of_ble_eq_true rfl) (by decide) (by decide) (c85 hM hK (by omega) (tm_r hM 240 (mpf (az 239) (ai 240) (fun v => dgf (al 244) (60 * (ai 261 (x3).toNat)).toNat v (ai 242 (ai 261 (x3).toNat).toNat).toNat) (sc 1).toNat).toNat)) (fun o27 v28 hq29 => ?_)
          obtain ⟨rfl, rfl⟩ := hq29
          have hp30 := dgf_bd (al 244) (60 * (ai 261 (x3).toNat)).toNat (ai 240 (mpf (az 239) (ai 240) (fun v => dgf (al 244) (60 * (ai 261 (x3).toNat)).toNat v (ai 242 (ai 261 (x3).toNat).toNat).toNat) (sc 1).toNat).toNat) (ai 242 (ai 261 (x3).toNat).toNat).toNat
          show vm_Wp _ _ _ 86 _ [.int (vz (dgf (al 244) (60 * (ai 261 (x3).toNat)).toNat (ai 240 (mpf (az 239) (ai 240) (fun v => dgf (al 244) (60 * (ai 261 (x3).toNat)).toNat v (ai 242 (ai 261 (x3).toNat).toNat).toNat) (sc 1).toNat).toNat) (ai 242 (ai 261 (x3).toNat).toNat).toNat)), .int (vz (dgf (al 244) (60 * i1).toNat (ai 240 (mpf (az 239) (ai 240) (fun v => dgf (al 244) (60 * (ai 261 (x3).toNat)).toNat v (ai 242 (ai 261 (x3).toNat).toNat).toNat) (sc 1).toNat).toNat) (ai 242 (i1).toNat).toNat))] _ _
          have hd2 : dgf (al 244) (60 * (ai 261 (x3).toNat)).toNat (ai 240 (mpf (az 239) (ai 240) (fun v => dgf (al 244) (60 * (ai 261 (x3).toNat)).toNat v (ai 242 (ai 261 (x3).toNat).toNat).toNat) (sc 1).toNat).toNat) (ai 242 (ai 261 (x3).toNat).toNat).toNat = (dmP fr nv (R (B.reverse.getD (x3).toNat 0)) : Int) := qL_dg (hR _ hb8.2).1 hV (by omega) hvq (by omega)
          refine w_ic e95_86 (by omega) (by omega) (fun (h31 : dgf (al 244) (60 * (ai 261 (x3).toNat)).toNat (ai 240 (mpf (az 239) (ai 240) (fun v => dgf (al 244) (60 * (ai 261 (x3).toNat)).toNat v (ai 242 (ai 261 (x3).toNat).toNat).toNat) (sc 1).toNat).toNat) (ai 242 (ai 261 (x3).toNat).toNat).toNat ≤ dgf (al 244) (60 * i1).toNat (ai 240 (mpf (az 239) (ai 240) (fun v => dgf (al 244) (60 * (ai 261 (x3).toNat)).toNat v (ai 242 (ai 261 (x3).toNat).toNat).toNat) (sc 1).toNat).toNat) (ai 242 (i1).toNat).toNat) => ?_) (fun (h31 : dgf (al 244) (60 * i1).toNat (ai 240 (mpf (az 239) (ai 240) (fun v => dgf (al 244) (60 * (ai 261 (x3).toNat)).toNat v (ai 242 (ai 261 (x3).toNat).toNat).toNat) (sc 1).toNat).toNat) (ai 242 (i1).toNat).toNat < dgf (al 244) (60 * (ai 261 (x3).toNat)).toNat (ai 240 (mpf (az 239) (ai 240) (fun v => dgf (al 244) (60 * (ai 261 (x3).toNat)).toNat v (ai 242 (ai 261 (x3).toNat).toNat).toNat) (sc 1).toNat).toNat) (ai 242 (ai 261 (x3).toNat).toNat).toNat) => ?_)
          ·
            refine w_kI e95_93 ?_
            refine w_stI (j := 2) (A1 := [some (.ref 238), some (.int (vz i1)), some (.int (vz 0)), some (.int (vz x3)), some (.int (vz (ai 240 (mpf (az 239) (ai 240) (fun v => dgf (al 244) (60 * (ai 261 (x3).toNat)).toNat v (ai 242 (ai 261 (x3).toNat).toNat).toNat) (sc 1).toNat).toNat)))]) e95_94 (fun _ => rfl) (by decide) rfl ?_
            refine w_iinc (A1 := [some (.ref 238), some (.int (vz i1)), some (.int (vz 0)), some (.int (vz (x3 + 1))), some (.int (vz (ai 240 (mpf (az 239) (ai 240) (fun v => dgf (al 244) (60 * (ai 261 (x3).toNat)).toNat v (ai 242 (ai 261 (x3).toNat).toNat).toNat) (sc 1).toNat).toNat)))]) e95_95 rfl (by decide) rfl ?_
            refine w_x e95_98 (fun _ => rfl) ?_
            exact w_sub (A1 := [some (.ref 238), some (.int (vz i1)), some (.int (vz 0)), some (.int (vz (x3 + 1))), none]) (And.intro rfl (And.intro rfl (And.intro rfl (And.intro rfl trivial)))) ((ih) 0 (x3 + 1) (by omega) (by omega) (fth_s (hi0q.mp (by omega)) (by omega) (by omega)) (by omega))
          ·
            refine w_kI e95_89 ?_
            refine w_x e95_90 (fun _ => rfl) ?_
            refine w_stI (j := 2) (A1 := [some (.ref 238), some (.int (vz i1)), some (.int (vz 1)), some (.int (vz x3)), some (.int (vz (ai 240 (mpf (az 239) (ai 240) (fun v => dgf (al 244) (60 * (ai 261 (x3).toNat)).toNat v (ai 242 (ai 261 (x3).toNat).toNat).toNat) (sc 1).toNat).toNat)))]) e95_94 (fun _ => rfl) (by decide) rfl ?_
            refine w_iinc (A1 := [some (.ref 238), some (.int (vz i1)), some (.int (vz 1)), some (.int (vz (x3 + 1))), some (.int (vz (ai 240 (mpf (az 239) (ai 240) (fun v => dgf (al 244) (60 * (ai 261 (x3).toNat)).toNat v (ai 242 (ai 261 (x3).toNat).toNat).toNat) (sc 1).toNat).toNat)))]) e95_95 rfl (by decide) rfl ?_
            refine w_x e95_98 (fun _ => rfl) ?_
            exact w_sub (A1 := [some (.ref 238), some (.int (vz i1)), some (.int (vz 1)), some (.int (vz (x3 + 1))), none]) (And.intro rfl (And.intro rfl (And.intro rfl (And.intro rfl trivial)))) ((ih) 1 (x3 + 1) (by omega) (by omega) (fth_s (hi0q.mp (by omega)) (by omega) (by omega)) (by omega))
set_option maxRecDepth 100000 in
set_option maxHeartbeats 4000000 in
theorem r95 {sc : Nat → Int} {ai : Nat → Nat → Int} {al : Nat → Nat → Int64} {az : Nat → Nat → Int32} {v0 vh : vm_H} (hM : tm sc ai al az v0 vh) (hK : tmok ai) {i1 : Int} (hi_1 : 0 ≤ i1 ∧ i1 < 72) {fr : Nat → Bool} {V : Nat → Nat} {nv : Nat} (hv : sc 1 = (nv : Int)) (hvr : vR ai = V) (hfr : frR az ai = fr) (hV : pmV V nv) {c : Nat} {R : Nat → Po} (hR : rwQ V nv ai al R c) (hNn : ∀ r, r < c → plP fr nv (R r) ≠ -1) (hc : c ≤ 40) {m : Nat} {B : List Nat} (hm : mbQ sc ai B c) (hr : m < c) (hir : i1 = 16 + (m : Int)) : vm_Rp 3 69 95 [.ref 238, .int (vz i1)] vh (fun r v1 => vh = v1 ∧ ∃ q : Int, ((0 ≤ q ∧ q ≤ 1) ∧ (q = 1 ↔ ftP fr nv R B m = true)) ∧ r = some (.int (vz q))) := by
  have hVn := hV.1
  have hm1 := hm.1.1
  have hm2 := hm.1.2
  have hLr := (hR m hr).1
  have hpr := pl_bd (fr := fr) (nv := nv) (f := R m)
  have hnr := hNn m hr
  refine w_in (m := 3) ?_
  show vm_Wp _ _ _ 0 [some (.ref 238), some (.int (vz i1)), none, none, none] [] _ _
  refine w_ldA e95_0 (fun _ => rfl) rfl ?_
  have e1 := tm_o hM
  refine w_get e95_1 e1 rfl ?_
  refine w_if e95_4 (tm_s hM 40) (fun (h2 : sc 40 = 0) => ?_) (fun (h2 : sc 40 ≠ 0) => ?_)
  ·
    refine w_kI e95_30 ?_
    refine w_x e95_31 (fun _ => rfl) ?_
    refine w_stI (j := 2) (A1 := [some (.ref 238), some (.int (vz i1)), some (.int (vz 1)), none, none]) e95_35 (fun _ => rfl) (by decide) rfl ?_
    refine w_kI e95_36 ?_
    refine w_stI (j := 3) (A1 := [some (.ref 238), some (.int (vz i1)), some (.int (vz 1)), some (.int (vz 0)), none]) e95_37 (fun _ => rfl) (by decide) rfl ?_
    exact w_sub (A1 := [some (.ref 238), some (.int (vz i1)), some (.int (vz 1)), some (.int (vz 0)), none]) (And.intro rfl (And.intro rfl (And.intro rfl (And.intro rfl trivial)))) (((r95_L (sc := sc) (ai := ai) (al := al) (az := az) (v0 := v0) (vh := vh) (i1 := i1) (fr := fr) (V := V) (nv := nv) (c := c) (R := R) (m := m) (B := B) hM hK hi_1 hv hvr hfr hV hR hNn hc hm hr hir _)) 1 0 (by omega) (by omega) (fth_0 (fun h9 => by omega) (fun h9 => by omega)) (Nat.lt_succ_self _))
  ·
    refine w_ldA e95_7 (fun _ => rfl) rfl ?_
    refine w_ldI e95_8 (fun _ => rfl) rfl ?_
    refine w_cv e95_9 (by decide) rfl e1 rfl (Nat.le_of_ble_eq_true rfl) (Nat.le_of_ble_eq_true rfl) (Nat.le_of_ble_eq_true rfl) (by decide) (by decide) (c86 hM hK (by omega) (by omega)) (fun o3 v4 hq5 => ?_)
    obtain ⟨rfl, rfl⟩ := hq5
    have hp6 := mpf_bd (az 239) (ai 240) (fun v => dgf (al 244) (60 * i1).toNat v (ai 242 (i1).toNat).toNat) (sc 1).toNat
    show vm_Wp _ _ _ 12 _ [.int (vz (mpf (az 239) (ai 240) (fun v => dgf (al 244) (60 * i1).toNat v (ai 242 (i1).toNat).toNat) (sc 1).toNat))] _ _
    have hmpr : mpf (az 239) (ai 240) (fun v => dgf (al 244) (60 * i1).toNat v (ai 242 (i1).toNat).toNat) (sc 1).toNat = plP fr nv (R m) := by rw [re_mp hLr hV hvr hK hv (by omega), hfr]
    refine w_ldA e95_12 (fun _ => rfl) rfl ?_
    refine w_ldA e95_13 (fun _ => rfl) rfl ?_
    refine w_get e95_14 e1 rfl ?_
    refine w_ldA e95_17 (fun _ => rfl) rfl ?_
    refine w_get e95_18 e1 rfl ?_
    refine w_kI e95_21 ?_
    refine w_isub e95_22 ?_
    have e7 := tm_i hM (a := 261) (n := 8) rfl
    refine w_ald e95_23 e7 (by omega) (by omega) (by decide) ?_
    show vm_Wp _ _ _ 24 _ [.int (vz (ai 261 ((sc 40) - 1).toNat)), .ref 238, .int (vz (mpf (az 239) (ai 240) (fun v => dgf (al 244) (60 * i1).toNat v (ai 242 (i1).toNat).toNat) (sc 1).toNat))] _ _
    have hb9 := mq_l hm (by omega)
    refine w_cv e95_24 (by decide) rfl e1 rfl (Nat.le_of_ble_eq_true rfl) (Nat.le_of_ble_eq_true rfl) (Nat.le_of_ble_eq_true rfl) (by decide) (by decide) (c86 hM hK (by omega) (by omega)) (fun o8 v9 hq10 => ?_)
    obtain ⟨rfl, rfl⟩ := hq10
    have hp11 := mpf_bd (az 239) (ai 240) (fun v => dgf (al 244) (60 * (ai 261 ((sc 40) - 1).toNat)).toNat v (ai 242 (ai 261 ((sc 40) - 1).toNat).toNat).toNat) (sc 1).toNat
    show vm_Wp _ _ _ 27 _ [.int (vz (mpf (az 239) (ai 240) (fun v => dgf (al 244) (60 * (ai 261 ((sc 40) - 1).toNat)).toNat v (ai 242 (ai 261 ((sc 40) - 1).toNat).toNat).toNat) (sc 1).toNat)), .int (vz (mpf (az 239) (ai 240) (fun v => dgf (al 244) (60 * i1).toNat v (ai 242 (i1).toNat).toNat) (sc 1).toNat))] _ _
    have hmpb : mpf (az 239) (ai 240) (fun v => dgf (al 244) (60 * (ai 261 ((sc 40) - 1).toNat)).toNat v (ai 242 (ai 261 ((sc 40) - 1).toNat).toNat).toNat) (sc 1).toNat = plP fr nv (R (B.reverse.getD (B.length - 1) 0)) := by rw [re_mp (hR _ hb9.2).1 hV hvr hK hv (by omega), hfr]
    refine w_ic e95_27 (by omega) (by omega) (fun (h12 : mpf (az 239) (ai 240) (fun v => dgf (al 244) (60 * i1).toNat v (ai 242 (i1).toNat).toNat) (sc 1).toNat ≤ mpf (az 239) (ai 240) (fun v => dgf (al 244) (60 * (ai 261 ((sc 40) - 1).toNat)).toNat v (ai 242 (ai 261 ((sc 40) - 1).toNat).toNat).toNat) (sc 1).toNat) => ?_) (fun (h12 : mpf (az 239) (ai 240) (fun v => dgf (al 244) (60 * (ai 261 ((sc 40) - 1).toNat)).toNat v (ai 242 (ai 261 ((sc 40) - 1).toNat).toNat).toNat) (sc 1).toNat < mpf (az 239) (ai 240) (fun v => dgf (al 244) (60 * i1).toNat v (ai 242 (i1).toNat).toNat) (sc 1).toNat) => ?_)
    ·
      refine w_kI e95_34 ?_
      refine w_stI (j := 2) (A1 := [some (.ref 238), some (.int (vz i1)), some (.int (vz 0)), none, none]) e95_35 (fun _ => rfl) (by decide) rfl ?_
      refine w_kI e95_36 ?_
      refine w_stI (j := 3) (A1 := [some (.ref 238), some (.int (vz i1)), some (.int (vz 0)), some (.int (vz 0)), none]) e95_37 (fun _ => rfl) (by decide) rfl ?_
      exact w_sub (A1 := [some (.ref 238), some (.int (vz i1)), some (.int (vz 0)), some (.int (vz 0)), none]) (And.intro rfl (And.intro rfl (And.intro rfl (And.intro rfl trivial)))) (((r95_L (sc := sc) (ai := ai) (al := al) (az := az) (v0 := v0) (vh := vh) (i1 := i1) (fr := fr) (V := V) (nv := nv) (c := c) (R := R) (m := m) (B := B) hM hK hi_1 hv hvr hfr hV hR hNn hc hm hr hir _)) 0 0 (by omega) (by omega) (fth_0 (fun h9 => by omega) (fun h9 => by omega)) (Nat.lt_succ_self _))
    ·
      refine w_kI e95_30 ?_
      refine w_x e95_31 (fun _ => rfl) ?_
      refine w_stI (j := 2) (A1 := [some (.ref 238), some (.int (vz i1)), some (.int (vz 1)), none, none]) e95_35 (fun _ => rfl) (by decide) rfl ?_
      refine w_kI e95_36 ?_
      refine w_stI (j := 3) (A1 := [some (.ref 238), some (.int (vz i1)), some (.int (vz 1)), some (.int (vz 0)), none]) e95_37 (fun _ => rfl) (by decide) rfl ?_
      exact w_sub (A1 := [some (.ref 238), some (.int (vz i1)), some (.int (vz 1)), some (.int (vz 0)), none]) (And.intro rfl (And.intro rfl (And.intro rfl (And.intro rfl trivial)))) (((r95_L (sc := sc) (ai := ai) (al := al) (az := az) (v0 := v0) (vh := vh) (i1 := i1) (fr := fr) (V := V) (nv := nv) (c := c) (R := R) (m := m) (B := B) hM hK hi_1 hv hvr hfr hV hR hNn hc hm hr hir _)) 1 0 (by omega) (by omega) (fth_0 (fun h9 => by omega) (fun h9 => by omega)) (Nat.lt_succ_self _))
set_option maxRecDepth 100000 in
set_option maxHeartbeats 4000000 in
theorem r96_L {sc : Nat → Int} {ai : Nat → Nat → Int} {al : Nat → Nat → Int64} {az : Nat → Nat → Int32} {v0 : vm_H} (hK : tmok ai) {fr : Nat → Bool} {V : Nat → Nat} {nv : Nat} (hv : sc 1 = (nv : Int)) (hvr : vR ai = V) (hfr : frR az ai = fr) (hV : pmV V nv) {c : Nat} {R : Nat → Po} (hR : rwQ V nv ai al R c) (hNn : ∀ r, r < c → plP fr nv (R r) ≠ -1) (hc : c ≤ 40) (h42 : sc 42 = (c : Int)) : ∀ N : Nat, (∀ (vh : vm_H) (sc_ : Nat → Int) (ai_ : Nat → Nat → Int) (x1 : Int), (tm sc_ ai_ al az v0 vh) → (tmok ai_) → (0 ≤ x1 ∧ x1 ≤ 1) → (∃ B, fbI fr nv R c sc sc_ ai ai_ B ∧ (x1 = 0 → lsP fr nv R B c = none)) → (((9 - sc_ 40) * 1000 + x1 * 500 : Int).toNat < N) → vm_Wp 4 95 96 7 [some (.ref 238), some (.int (vz x1)), none, none] [] vh (vq_P 96 (fun r v1 => (∃ (sc1 : Nat → Int) (ai1 : Nat → Nat → Int), fbO fr nv R c sc sc1 ai ai1 ∧ tmok ai1 ∧ tm sc1 ai1 al az v0 v1) ∧ r = none))) ∧ (∀ (vh : vm_H) (sc_ : Nat → Int) (ai_ : Nat → Nat → Int) (x1 : Int) (x2 : Int) (x3 : Int), (tm sc_ ai_ al az v0 vh) → (tmok ai_) → (0 ≤ x1 ∧ x1 ≤ 1) → (-2147483648 ≤ x2 ∧ x2 < 2147483648) → (0 ≤ x3 ∧ x3 ≤ (c : Int)) → (∃ B, fbI fr nv R c sc sc_ ai ai_ B ∧ lsQ fr nv R B (x3).toNat x2) → (((9 - sc_ 40) * 1000 + 400 - x3 : Int).toNat < N) → vm_Wp 4 95 96 15 [some (.ref 238), some (.int (vz x1)), some (.int (vz x2)), some (.int (vz x3))] [] vh (vq_P 96 (fun r v1 => (∃ (sc1 : Nat → Int) (ai1 : Nat → Nat → Int), fbO fr nv R c sc sc1 ai ai1 ∧ tmok ai1 ∧ tm sc1 ai1 al az v0 v1) ∧ r = none))) := by
  intro N
  induction N with
  | zero => exact ⟨by intros; omega, by intros; omega⟩
  | succ N ih =>
    refine ⟨?_, ?_⟩
    ·
      intro vh sc_ ai_ x1 hM hK_ hx1 hi0q hN
      obtain ⟨B, hBq, hx⟩ := hi0q
      have hm1 := hBq.1.1.1
      have hm2 := hBq.1.1.2
      have hvr_ : vR ai_ = V := (fb_vR hBq.2.2.2).trans hvr
      have hfr_ : frR az ai_ = fr := (fb_fr hBq.2.2.2).trans hfr
      have hv_ : sc_ 1 = (nv : Int) := by rw [hBq.2.2.1, u1_o (by decide)]; exact hv
      have h42_ : sc_ 42 = (c : Int) := by rw [hBq.2.2.1, u1_o (by decide)]; exact h42
      have hR_ := fb_rw hBq hR
      have hVn := hV.1
      refine w_ldI e96_7 (fun _ => rfl) rfl ?_
      refine w_if e96_8 (by omega) (fun (h8 : x1 = 0) => ?_) (fun (h8 : x1 ≠ 0) => ?_)
      ·
        exact w_rv e96_98 rfl ⟨⟨sc_, ai_, fb_e hBq (hx (by omega)), hK_, hM⟩, rfl⟩
      ·
        refine w_kI e96_11 ?_
        refine w_stI (j := 2) (A1 := [some (.ref 238), some (.int (vz x1)), some (.int (vz (-1))), none]) e96_12 (fun _ => rfl) (by decide) rfl ?_
        refine w_kI e96_13 ?_
        refine w_stI (j := 3) (A1 := [some (.ref 238), some (.int (vz x1)), some (.int (vz (-1))), some (.int (vz 0))]) e96_14 (fun _ => rfl) (by decide) rfl ?_
        exact w_sub (A1 := [some (.ref 238), some (.int (vz x1)), some (.int (vz (-1))), some (.int (vz 0))]) (And.intro rfl (And.intro rfl (And.intro rfl (And.intro rfl trivial)))) ((ih.2) vh sc_ ai_ x1 (-1) 0 hM hK_ (by omega) (by omega) (by omega) ⟨B, hBq, Or.inl ⟨by decide, rfl⟩⟩ (by omega))
    ·
      intro vh sc_ ai_ x1 x2 x3 hM hK_ hx1 hx2 hx3 hi0q hN
      obtain ⟨B, hBq, hx⟩ := hi0q
      have hm1 := hBq.1.1.1
      have hm2 := hBq.1.1.2
      have hvr_ : vR ai_ = V := (fb_vR hBq.2.2.2).trans hvr
      have hfr_ : frR az ai_ = fr := (fb_fr hBq.2.2.2).trans hfr
      have hv_ : sc_ 1 = (nv : Int) := by rw [hBq.2.2.1, u1_o (by decide)]; exact hv
      have h42_ : sc_ 42 = (c : Int) := by rw [hBq.2.2.1, u1_o (by decide)]; exact h42
      have hR_ := fb_rw hBq hR
      have hVn := hV.1
      refine w_ldI e96_15 (fun _ => rfl) rfl ?_
      refine w_ldA e96_16 (fun _ => rfl) rfl ?_
      have e9 := tm_o hM
      refine w_get e96_17 e9 rfl ?_
      refine w_ic e96_20 (by omega) (tm_s hM 42) (fun (h10 : sc_ 42 ≤ x3) => ?_) (fun (h10 : x3 < sc_ 42) => ?_)
      ·
        refine w_ldI e96_61 (fun _ => rfl) rfl ?_
        refine w_if e96_62 hx2 (fun (h11 : x2 < 0) => ?_) (fun (h11 : 0 ≤ x2) => ?_)
        ·
          refine w_kI e96_69 ?_
          refine w_stI (j := 1) (A1 := [some (.ref 238), some (.int (vz 0)), some (.int (vz x2)), some (.int (vz x3))]) e96_70 (fun _ => rfl) (by decide) rfl ?_
          refine w_ldI e96_71 (fun _ => rfl) rfl ?_
          refine w_if e96_72 (by omega) (fun (h12 : 0 = 0) => ?_) (fun (h12 : 0 ≠ 0) => ?_)
          ·
            refine w_x e96_95 (fun _ => rfl) ?_
            exact w_sub (A1 := [some (.ref 238), some (.int (vz 0)), none, none]) (And.intro rfl (And.intro rfl trivial)) ((ih.1) vh sc_ ai_ 0 hM hK_ (by omega) ⟨B, hBq, fun _ => by have h9 := fb_n hx (by omega); rw [show (x3).toNat = c by omega] at h9; exact h9⟩ (by omega))
          ·
            refine w_ldA e96_75 (fun _ => rfl) rfl ?_
            refine w_get e96_76 e9 rfl ?_
            refine w_ldA e96_79 (fun _ => rfl) rfl ?_
            refine w_get e96_80 e9 rfl ?_
            refine w_ldI e96_83 (fun _ => rfl) rfl ?_
            have e13 := tm_i hM (a := 261) (n := 8) rfl
            refine w_ast e96_84 e13 (by omega) (by omega) (by decide) (by decide) (fun v16 b14 h15 => ?_)
            obtain ⟨ai17, hd19, hM18⟩ : ∃ z, z = u2 ai_ 261 (sc_ 40).toNat x2 ∧ tm sc_ z al az v0 v16 := ⟨_, rfl, tm_pi hM rfl hx2 b14 h15⟩
            have hK20 : tmok ai17 := by rw [hd19]; exact tmok_u hK_ (by decide) (by decide)
            refine w_ldA e96_85 (fun _ => rfl) rfl ?_
            refine w_x e96_86 (fun _ => rfl) ?_
            have e21 := tm_o hM18
            refine w_get e96_87 e21 rfl ?_
            refine w_kI e96_90 ?_
            refine w_iadd e96_91 ?_
            refine w_put e96_92 e21 (Nat.le_of_ble_eq_true rfl) rfl (fun v24 b22 h23 => ?_)
            obtain ⟨sc25, hd27, hM26⟩ : ∃ z, z = u1 sc_ 40 ((sc_ 40) + 1) ∧ tm z ai17 al az v0 v24 := ⟨_, rfl, tm_ps 40 hM18 (by omega) b22 h23⟩
            have hs9 : sc25 40 = sc_ 40 + 1 := by rw [hd27, u1_s]
            refine w_x e96_95 (fun _ => rfl) ?_
            exact w_sub (A1 := [some (.ref 238), some (.int (vz 0)), none, none]) (And.intro rfl (And.intro rfl trivial)) ((ih.1) v24 sc25 ai17 0 hM26 hK20 (by omega) (by exfalso; omega) (by omega))
        ·
          obtain ⟨b9, hz9, hl9⟩ := fb_c hx (by omega)
          rw [show (x3).toNat = c by omega] at hl9
          have hb9 := lsP_ft _ hl9
          have hn9 := hNn b9 hb9.1
          have hB8 := inB_8 hBq.2.1.2 hb9.2 hn9 hVn
          refine w_kI e96_65 ?_
          refine w_x e96_66 (fun _ => rfl) ?_
          refine w_stI (j := 1) (A1 := [some (.ref 238), some (.int (vz 1)), some (.int (vz x2)), some (.int (vz x3))]) e96_70 (fun _ => rfl) (by decide) rfl ?_
          refine w_ldI e96_71 (fun _ => rfl) rfl ?_
          refine w_if e96_72 (by omega) (fun (h28 : 1 = 0) => ?_) (fun (h28 : 1 ≠ 0) => ?_)
          ·
            refine w_x e96_95 (fun _ => rfl) ?_
            exact w_sub (A1 := [some (.ref 238), some (.int (vz 1)), none, none]) (And.intro rfl (And.intro rfl trivial)) ((ih.1) vh sc_ ai_ 1 hM hK_ (by omega) (by exfalso; omega) (by omega))
          ·
            refine w_ldA e96_75 (fun _ => rfl) rfl ?_
            refine w_get e96_76 e9 rfl ?_
            refine w_ldA e96_79 (fun _ => rfl) rfl ?_
            refine w_get e96_80 e9 rfl ?_
            refine w_ldI e96_83 (fun _ => rfl) rfl ?_
            have e29 := tm_i hM (a := 261) (n := 8) rfl
            refine w_ast e96_84 e29 (by omega) (by omega) (by decide) (by decide) (fun v32 b30 h31 => ?_)
            obtain ⟨ai33, hd35, hM34⟩ : ∃ z, z = u2 ai_ 261 (sc_ 40).toNat x2 ∧ tm sc_ z al az v0 v32 := ⟨_, rfl, tm_pi hM rfl hx2 b30 h31⟩
            have hK36 : tmok ai33 := by rw [hd35]; exact tmok_u hK_ (by decide) (by decide)
            refine w_ldA e96_85 (fun _ => rfl) rfl ?_
            refine w_x e96_86 (fun _ => rfl) ?_
            have e37 := tm_o hM34
            refine w_get e96_87 e37 rfl ?_
            refine w_kI e96_90 ?_
            refine w_iadd e96_91 ?_
            refine w_put e96_92 e37 (Nat.le_of_ble_eq_true rfl) rfl (fun v40 b38 h39 => ?_)
            obtain ⟨sc41, hd43, hM42⟩ : ∃ z, z = u1 sc_ 40 ((sc_ 40) + 1) ∧ tm z ai33 al az v0 v40 := ⟨_, rfl, tm_ps 40 hM34 (by omega) b38 h39⟩
            have hs9 : sc41 40 = sc_ 40 + 1 := by rw [hd43, u1_s]
            refine w_x e96_95 (fun _ => rfl) ?_
            exact w_sub (A1 := [some (.ref 238), some (.int (vz 1)), none, none]) (And.intro rfl (And.intro rfl trivial)) ((ih.1) v40 sc41 ai33 1 hM42 hK36 (by omega) ⟨b9 :: B, fb_s hBq hl9 hn9 hVn rfl hz9 hd35 rfl hd43, fun h9 => absurd h9 (by decide)⟩ (by omega))
      ·
        refine w_ldA e96_23 (fun _ => rfl) rfl ?_
        refine w_kB e96_24 rfl ?_
        refine w_ldI e96_26 (fun _ => rfl) rfl ?_
        refine w_iadd e96_27 ?_
        refine w_cv e96_28 (by decide) rfl e9 rfl (Nat.le_of_ble_eq_true rfl) (Nat.le_of_ble_eq_true rfl) (Nat.le_of_ble_eq_true rfl) (by decide) (by decide) (r95 hM hK_ (by omega) hv_ hvr_ hfr_ hV hR_ hNn hc hBq.1 (m := (x3).toNat) (by omega) (by omega)) (fun o44 v45 hq46 => ?_)
        obtain ⟨rfl, q47, h48, rfl⟩ := hq46
        have hb49 := h48.1
        refine w_if e96_31 (by omega) (fun (h50 : q47 = 0) => ?_) (fun (h50 : q47 ≠ 0) => ?_)
        ·
          refine w_iinc (A1 := [some (.ref 238), some (.int (vz x1)), some (.int (vz x2)), some (.int (vz (x3 + 1)))]) e96_55 rfl (by decide) rfl ?_
          refine w_x e96_58 (fun _ => rfl) ?_
          exact w_sub (A1 := [some (.ref 238), some (.int (vz x1)), some (.int (vz x2)), some (.int (vz (x3 + 1)))]) (And.intro rfl (And.intro rfl (And.intro rfl (And.intro rfl trivial)))) ((ih.2) vh sc_ ai_ x1 x2 (x3 + 1) hM hK_ (by omega) hx2 (by omega) ⟨B, hBq, lq_a hx (by omega) h48.2 (by omega)⟩ (by omega))
        ·
          refine w_ldI e96_34 (fun _ => rfl) rfl ?_
          refine w_if e96_35 hx2 (fun (h51 : x2 < 0) => ?_) (fun (h51 : 0 ≤ x2) => ?_)
          ·
            refine w_kB e96_50 rfl ?_
            refine w_ldI e96_52 (fun _ => rfl) rfl ?_
            refine w_iadd e96_53 ?_
            refine w_stI (j := 2) (A1 := [some (.ref 238), some (.int (vz x1)), some (.int (vz (16 + x3))), some (.int (vz x3))]) e96_54 (fun _ => rfl) (by decide) rfl ?_
            refine w_iinc (A1 := [some (.ref 238), some (.int (vz x1)), some (.int (vz (16 + x3))), some (.int (vz (x3 + 1)))]) e96_55 rfl (by decide) rfl ?_
            refine w_x e96_58 (fun _ => rfl) ?_
            exact w_sub (A1 := [some (.ref 238), some (.int (vz x1)), some (.int (vz (16 + x3))), some (.int (vz (x3 + 1)))]) (And.intro rfl (And.intro rfl (And.intro rfl (And.intro rfl trivial)))) ((ih.2) vh sc_ ai_ x1 (16 + x3) (x3 + 1) hM hK_ (by omega) (by omega) (by omega) ⟨B, hBq, lq_b hx (by omega) h48.2 (by omega) (by omega)⟩ (by omega))
          ·
            obtain ⟨b9, hz9, hl9⟩ := fb_c hx (by omega)
            have hb9 := lsP_ft _ hl9
            refine w_ldA e96_38 (fun _ => rfl) rfl ?_
            refine w_kB e96_39 rfl ?_
            refine w_ldI e96_41 (fun _ => rfl) rfl ?_
            refine w_iadd e96_42 ?_
            refine w_ldI e96_43 (fun _ => rfl) rfl ?_
            refine w_cv e96_44 (by decide) rfl e9 rfl (Nat.le_of_ble_eq_true rfl) (Nat.le_of_ble_eq_true rfl) (Nat.le_of_ble_eq_true rfl) (by decide) (by decide) (r94 hM hK_ (by omega) (by omega) hv_ hvr_ hfr_ hV (f := R (x3).toNat) (g := R b9) (by rw [show (16 + x3).toNat = 16 + (x3).toNat by omega]; exact (hR_ _ (by omega)).1) (by rw [show (x2).toNat = 16 + b9 by omega]; exact (hR_ _ (by omega)).1) (hNn _ (by omega)) (hNn _ (by omega))) (fun o52 v53 hq54 => ?_)
            obtain ⟨rfl, q55, h56, rfl⟩ := hq54
            have hb57 := h56.1
            refine w_if e96_47 (by omega) (fun (h58 : q55 = 0) => ?_) (fun (h58 : q55 ≠ 0) => ?_)
            ·
              refine w_iinc (A1 := [some (.ref 238), some (.int (vz x1)), some (.int (vz x2)), some (.int (vz (x3 + 1)))]) e96_55 rfl (by decide) rfl ?_
              refine w_x e96_58 (fun _ => rfl) ?_
              exact w_sub (A1 := [some (.ref 238), some (.int (vz x1)), some (.int (vz x2)), some (.int (vz (x3 + 1)))]) (And.intro rfl (And.intro rfl (And.intro rfl (And.intro rfl trivial)))) ((ih.2) vh sc_ ai_ x1 x2 (x3 + 1) hM hK_ (by omega) hx2 (by omega) ⟨B, hBq, lq_d hl9 hz9 (by omega) h48.2 (by omega) h56.2 (by omega)⟩ (by omega))
            ·
              refine w_kB e96_50 rfl ?_
              refine w_ldI e96_52 (fun _ => rfl) rfl ?_
              refine w_iadd e96_53 ?_
              refine w_stI (j := 2) (A1 := [some (.ref 238), some (.int (vz x1)), some (.int (vz (16 + x3))), some (.int (vz x3))]) e96_54 (fun _ => rfl) (by decide) rfl ?_
              refine w_iinc (A1 := [some (.ref 238), some (.int (vz x1)), some (.int (vz (16 + x3))), some (.int (vz (x3 + 1)))]) e96_55 rfl (by decide) rfl ?_
              refine w_x e96_58 (fun _ => rfl) ?_
              exact w_sub (A1 := [some (.ref 238), some (.int (vz x1)), some (.int (vz (16 + x3))), some (.int (vz (x3 + 1)))]) (And.intro rfl (And.intro rfl (And.intro rfl (And.intro rfl trivial)))) ((ih.2) vh sc_ ai_ x1 (16 + x3) (x3 + 1) hM hK_ (by omega) (by omega) (by omega) ⟨B, hBq, lq_c hl9 (by omega) h48.2 (by omega) h56.2 (by omega)⟩ (by omega))
set_option maxRecDepth 100000 in
set_option maxHeartbeats 4000000 in
theorem r96 {sc : Nat → Int} {ai : Nat → Nat → Int} {al : Nat → Nat → Int64} {az : Nat → Nat → Int32} {v0 vh : vm_H} (hM : tm sc ai al az v0 vh) (hK : tmok ai) {fr : Nat → Bool} {V : Nat → Nat} {nv : Nat} (hv : sc 1 = (nv : Int)) (hvr : vR ai = V) (hfr : frR az ai = fr) (hV : pmV V nv) {c : Nat} {R : Nat → Po} (hR : rwQ V nv ai al R c) (hNn : ∀ r, r < c → plP fr nv (R r) ≠ -1) (hc : c ≤ 40) (h42 : sc 42 = (c : Int)) : vm_Rp 4 95 96 [.ref 238] vh (fun r v1 => (∃ (sc1 : Nat → Int) (ai1 : Nat → Nat → Int), fbO fr nv R c sc sc1 ai ai1 ∧ tmok ai1 ∧ tm sc1 ai1 al az v0 v1) ∧ r = none) := by
  refine w_in (m := 3) ?_
  show vm_Wp _ _ _ 0 [some (.ref 238), none, none, none] [] _ _
  refine w_ldA e96_0 (fun _ => rfl) rfl ?_
  refine w_kI e96_1 ?_
  have e1 := tm_o hM
  refine w_put e96_2 e1 (Nat.le_of_ble_eq_true rfl) rfl (fun v4 b2 h3 => ?_)
  obtain ⟨sc5, hd7, hM6⟩ : ∃ z, z = u1 sc 40 (0) ∧ tm z ai al az v0 v4 := ⟨_, rfl, tm_ps 40 hM (by omega) b2 h3⟩
  have hs9 : sc5 40 = 0 := by rw [hd7, u1_s]
  refine w_kI e96_5 ?_
  refine w_stI (j := 1) (A1 := [some (.ref 238), some (.int (vz 1)), none, none]) e96_6 (fun _ => rfl) (by decide) rfl ?_
  exact w_sub (A1 := [some (.ref 238), some (.int (vz 1)), none, none]) (And.intro rfl (And.intro rfl trivial)) (((r96_L (sc := sc) (ai := ai) (al := al) (az := az) (v0 := v0) (fr := fr) (V := V) (nv := nv) (c := c) (R := R) hK hv hvr hfr hV hR hNn hc h42 _).1) v4 sc5 ai 1 hM6 hK (by omega) ⟨[], fb_0 hd7, fun h9 => absurd h9 (by decide)⟩ (Nat.lt_succ_self _))
set_option maxRecDepth 100000 in
set_option maxHeartbeats 4000000 in
theorem r97_L {sc : Nat → Int} {ai : Nat → Nat → Int} {al : Nat → Nat → Int64} {az : Nat → Nat → Int32} {v0 vh : vm_H} (hM : tm sc ai al az v0 vh) (hK : tmok ai) {i1 : Int} (hi_1 : 0 ≤ i1 ∧ i1 < 72) {c m : Nat} {B : List Nat} (hm : mbQ sc ai B c) (hir : i1 = 16 + (m : Int)) : ∀ N : Nat, (∀ (x2 : Int) (x3 : Int), (0 ≤ x2 ∧ x2 ≤ 1) → (0 ≤ x3 ∧ x3 ≤ sc 40) → (x2 = 1 ↔ ibI B m x3) → ((9 - x3 : Int).toNat < N) → vm_Wp 0 0 97 4 [some (.ref 238), some (.int (vz i1)), some (.int (vz x2)), some (.int (vz x3))] [] vh (vq_P 97 (fun r v1 => vh = v1 ∧ ∃ q : Int, ((0 ≤ q ∧ q ≤ 1) ∧ (q = 1 ↔ m ∈ B)) ∧ r = some (.int (vz q))))) := by
  have hm1 := hm.1.1
  have hm2 := hm.1.2
  intro N
  induction N with
  | zero => exact (by intros; omega)
  | succ N ih =>
    ·
      intro x2 x3 hx2 hx3 hi0q hN
      refine w_ldI e97_4 (fun _ => rfl) rfl ?_
      refine w_ldA e97_5 (fun _ => rfl) rfl ?_
      have e1 := tm_o hM
      refine w_get e97_6 e1 rfl ?_
      refine w_ic e97_9 (by omega) (tm_s hM 40) (fun (h2 : sc 40 ≤ x3) => ?_) (fun (h2 : x3 < sc 40) => ?_)
      ·
        refine w_ldI e97_36 (fun _ => rfl) rfl ?_
        exact w_rz e97_37 rfl (by omega) ⟨rfl, x2, ⟨by omega, ib_e hi0q (by omega)⟩, rfl⟩
      ·
        refine w_ldI e97_12 (fun _ => rfl) rfl ?_
        refine w_ldA e97_13 (fun _ => rfl) rfl ?_
        refine w_get e97_14 e1 rfl ?_
        refine w_ldI e97_17 (fun _ => rfl) rfl ?_
        have e3 := tm_i hM (a := 261) (n := 8) rfl
        refine w_ald e97_18 e3 (by omega) (by omega) (by decide) ?_
        show vm_Wp _ _ _ 19 _ [.int (vz (ai 261 (x3).toNat)), .int (vz x2)] _ _
        have hb8 := mq_b hm (x := x3) (by omega)
        refine w_ldI e97_19 (fun _ => rfl) rfl ?_
        refine w_ic e97_20 (tm_r hM 261 (x3).toNat) (by omega) (fun (h4 : ai 261 (x3).toNat ≠ i1) => ?_) (fun (h4 : ai 261 (x3).toNat = i1) => ?_)
        ·
          refine w_kI e97_27 ?_
          refine w_x e97_28 (fun _ => rfl) ?_
          show vm_Wp _ _ _ 29 _ [.int (vz x2 ||| vz 0)] _ _
          rw [or0 (by omega)]
          refine w_stI (j := 2) (A1 := [some (.ref 238), some (.int (vz i1)), some (.int (vz x2)), some (.int (vz x3))]) e97_29 (fun _ => rfl) (by decide) rfl ?_
          refine w_iinc (A1 := [some (.ref 238), some (.int (vz i1)), some (.int (vz x2)), some (.int (vz (x3 + 1)))]) e97_30 rfl (by decide) rfl ?_
          refine w_x e97_33 (fun _ => rfl) ?_
          exact w_sub (A1 := [some (.ref 238), some (.int (vz i1)), some (.int (vz x2)), some (.int (vz (x3 + 1)))]) (And.intro rfl (And.intro rfl (And.intro rfl (And.intro rfl trivial)))) ((ih) x2 (x3 + 1) (by omega) (by omega) (ib_n hi0q (by omega) (by omega)) (by omega))
        ·
          refine w_kI e97_23 ?_
          refine w_x e97_24 (fun _ => rfl) ?_
          refine w_x e97_28 (fun _ => rfl) ?_
          show vm_Wp _ _ _ 29 _ [.int (vz x2 ||| vz 1)] _ _
          rw [or1 (by omega)]
          refine w_stI (j := 2) (A1 := [some (.ref 238), some (.int (vz i1)), some (.int (vz 1)), some (.int (vz x3))]) e97_29 (fun _ => rfl) (by decide) rfl ?_
          refine w_iinc (A1 := [some (.ref 238), some (.int (vz i1)), some (.int (vz 1)), some (.int (vz (x3 + 1)))]) e97_30 rfl (by decide) rfl ?_
          refine w_x e97_33 (fun _ => rfl) ?_
          exact w_sub (A1 := [some (.ref 238), some (.int (vz i1)), some (.int (vz 1)), some (.int (vz (x3 + 1)))]) (And.intro rfl (And.intro rfl (And.intro rfl (And.intro rfl trivial)))) ((ih) 1 (x3 + 1) (by omega) (by omega) ⟨fun _ => ⟨(x3).toNat, by omega, by omega⟩, fun _ => rfl⟩ (by omega))
set_option maxRecDepth 100000 in
set_option maxHeartbeats 4000000 in
theorem r97 {sc : Nat → Int} {ai : Nat → Nat → Int} {al : Nat → Nat → Int64} {az : Nat → Nat → Int32} {v0 vh : vm_H} (hM : tm sc ai al az v0 vh) (hK : tmok ai) {i1 : Int} (hi_1 : 0 ≤ i1 ∧ i1 < 72) {c m : Nat} {B : List Nat} (hm : mbQ sc ai B c) (hir : i1 = 16 + (m : Int)) : vm_Rp 0 0 97 [.ref 238, .int (vz i1)] vh (fun r v1 => vh = v1 ∧ ∃ q : Int, ((0 ≤ q ∧ q ≤ 1) ∧ (q = 1 ↔ m ∈ B)) ∧ r = some (.int (vz q))) := by
  have hm1 := hm.1.1
  have hm2 := hm.1.2
  refine w_in (m := 2) ?_
  show vm_Wp _ _ _ 0 [some (.ref 238), some (.int (vz i1)), none, none] [] _ _
  refine w_kI e97_0 ?_
  refine w_stI (j := 2) (A1 := [some (.ref 238), some (.int (vz i1)), some (.int (vz 0)), none]) e97_1 (fun _ => rfl) (by decide) rfl ?_
  refine w_kI e97_2 ?_
  refine w_stI (j := 3) (A1 := [some (.ref 238), some (.int (vz i1)), some (.int (vz 0)), some (.int (vz 0))]) e97_3 (fun _ => rfl) (by decide) rfl ?_
  exact w_sub (A1 := [some (.ref 238), some (.int (vz i1)), some (.int (vz 0)), some (.int (vz 0))]) (And.intro rfl (And.intro rfl (And.intro rfl (And.intro rfl trivial)))) (((r97_L (sc := sc) (ai := ai) (al := al) (az := az) (v0 := v0) (vh := vh) (i1 := i1) (c := c) (m := m) (B := B) hM hK hi_1 hm hir _)) 0 0 (by omega) (by omega) ⟨fun h9 => absurd h9 (by decide), fun ⟨j, h9, _⟩ => by omega⟩ (Nat.lt_succ_self _))
set_option maxRecDepth 100000 in
set_option maxHeartbeats 4000000 in
theorem r98_L {sc : Nat → Int} {ai : Nat → Nat → Int} {al : Nat → Nat → Int64} {az : Nat → Nat → Int32} {v0 vh : vm_H} (hM : tm sc ai al az v0 vh) (hK : tmok ai) {i1 : Int} (hi_1 : 0 ≤ i1 ∧ i1 < 72) {V : Nat → Nat} {nv c : Nat} {R : Nat → Po} {g : Po} (hV : pmV V nv) (hR : rwQ V nv ai al R c) (hc : c ≤ 40) (h42 : sc 42 = (c : Int)) (hLg : qL V nv ai al (i1).toNat g) (hgg : gk nv g) : ∀ N : Nat, (∀ (x2 : Int) (x3 : Int), (0 ≤ x2 ∧ x2 ≤ 1) → (0 ≤ x3 ∧ x3 ≤ sc 42) → (x2 = 1 ↔ irI R g x3) → ((41 - x3 : Int).toNat < N) → vm_Wp 1 24 98 4 [some (.ref 238), some (.int (vz i1)), some (.int (vz x2)), some (.int (vz x3))] [] vh (vq_P 98 (fun r v1 => vh = v1 ∧ ∃ q : Int, ((0 ≤ q ∧ q ≤ 1) ∧ irP R g c q) ∧ r = some (.int (vz q))))) := by
  intro N
  induction N with
  | zero => exact (by intros; omega)
  | succ N ih =>
    ·
      intro x2 x3 hx2 hx3 hi0q hN
      refine w_ldI e98_4 (fun _ => rfl) rfl ?_
      refine w_ldA e98_5 (fun _ => rfl) rfl ?_
      have e1 := tm_o hM
      refine w_get e98_6 e1 rfl ?_
      refine w_ic e98_9 (by omega) (tm_s hM 42) (fun (h2 : sc 42 ≤ x3) => ?_) (fun (h2 : x3 < sc 42) => ?_)
      ·
        refine w_ldI e98_32 (fun _ => rfl) rfl ?_
        exact w_rz e98_33 rfl (by omega) ⟨rfl, x2, ⟨by omega, ir_e (c := c) hi0q (by omega) (Or.inl (by omega))⟩, rfl⟩
      ·
        refine w_ldI e98_12 (fun _ => rfl) rfl ?_
        refine w_if e98_13 (by omega) (fun (h3 : x2 ≠ 0) => ?_) (fun (h3 : x2 = 0) => ?_)
        ·
          refine w_ldI e98_32 (fun _ => rfl) rfl ?_
          exact w_rz e98_33 rfl (by omega) ⟨rfl, x2, ⟨by omega, ir_e (c := c) hi0q (by omega) (Or.inr (by omega))⟩, rfl⟩
        ·
          refine w_ldA e98_16 (fun _ => rfl) rfl ?_
          refine w_kB e98_17 rfl ?_
          refine w_ldI e98_19 (fun _ => rfl) rfl ?_
          refine w_iadd e98_20 ?_
          refine w_ldI e98_21 (fun _ => rfl) rfl ?_
          refine w_cv e98_22 (by decide) rfl e1 rfl (Nat.le_of_ble_eq_true rfl) (Nat.le_of_ble_eq_true rfl) (Nat.le_of_ble_eq_true rfl) (by decide) (by decide) (r84 hM hK (by omega) (by omega)) (fun o4 v5 hq6 => ?_)
          obtain ⟨rfl, q7, h8, rfl⟩ := hq6
          have hb9 := h8.1
          have hsm := h8.2.trans (qsame (a := (16 + x3).toNat) (b := (i1).toNat) (f := R (x3).toNat) (g := g) (by rw [show (16 + x3).toNat = 16 + (x3).toNat by omega]; exact (hR _ (by omega)).1) hLg hV (fun x hx => (hR (x3).toNat (by omega)).2.2.2 x hx) (fun x hx => hgg.2.2 x hx))
          refine w_stI (j := 2) (A1 := [some (.ref 238), some (.int (vz i1)), some (.int (vz q7)), some (.int (vz x3))]) e98_25 (fun _ => rfl) (by decide) rfl ?_
          refine w_iinc (A1 := [some (.ref 238), some (.int (vz i1)), some (.int (vz q7)), some (.int (vz (x3 + 1)))]) e98_26 rfl (by decide) rfl ?_
          refine w_x e98_29 (fun _ => rfl) ?_
          exact w_sub (A1 := [some (.ref 238), some (.int (vz i1)), some (.int (vz q7)), some (.int (vz (x3 + 1)))]) (And.intro rfl (And.intro rfl (And.intro rfl (And.intro rfl trivial)))) ((ih) q7 (x3 + 1) (by omega) (by omega) (ir_s hi0q (by omega) (by omega) hsm) (by omega))
set_option maxRecDepth 100000 in
set_option maxHeartbeats 4000000 in
theorem r98 {sc : Nat → Int} {ai : Nat → Nat → Int} {al : Nat → Nat → Int64} {az : Nat → Nat → Int32} {v0 vh : vm_H} (hM : tm sc ai al az v0 vh) (hK : tmok ai) {i1 : Int} (hi_1 : 0 ≤ i1 ∧ i1 < 72) {V : Nat → Nat} {nv c : Nat} {R : Nat → Po} {g : Po} (hV : pmV V nv) (hR : rwQ V nv ai al R c) (hc : c ≤ 40) (h42 : sc 42 = (c : Int)) (hLg : qL V nv ai al (i1).toNat g) (hgg : gk nv g) : vm_Rp 1 24 98 [.ref 238, .int (vz i1)] vh (fun r v1 => vh = v1 ∧ ∃ q : Int, ((0 ≤ q ∧ q ≤ 1) ∧ irP R g c q) ∧ r = some (.int (vz q))) := by
  refine w_in (m := 2) ?_
  show vm_Wp _ _ _ 0 [some (.ref 238), some (.int (vz i1)), none, none] [] _ _
  refine w_kI e98_0 ?_
  refine w_stI (j := 2) (A1 := [some (.ref 238), some (.int (vz i1)), some (.int (vz 0)), none]) e98_1 (fun _ => rfl) (by decide) rfl ?_
  refine w_kI e98_2 ?_
  refine w_stI (j := 3) (A1 := [some (.ref 238), some (.int (vz i1)), some (.int (vz 0)), some (.int (vz 0))]) e98_3 (fun _ => rfl) (by decide) rfl ?_
  exact w_sub (A1 := [some (.ref 238), some (.int (vz i1)), some (.int (vz 0)), some (.int (vz 0))]) (And.intro rfl (And.intro rfl (And.intro rfl (And.intro rfl trivial)))) (((r98_L (sc := sc) (ai := ai) (al := al) (az := az) (v0 := v0) (vh := vh) (i1 := i1) (V := V) (nv := nv) (c := c) (R := R) (g := g) hM hK hi_1 hV hR hc h42 hLg hgg _)) 0 0 (by omega) (by omega) ⟨fun h9 => absurd h9 (by decide), fun ⟨j, h9, _⟩ => by omega⟩ (Nat.lt_succ_self _))
set_option maxRecDepth 100000 in
set_option maxHeartbeats 4000000 in
theorem r99 {sc : Nat → Int} {ai : Nat → Nat → Int} {al : Nat → Nat → Int64} {az : Nat → Nat → Int32} {v0 vh : vm_H} (hM : tm sc ai al az v0 vh) (hK : tmok ai) {i1 : Int} (hi_1 : 0 ≤ i1 ∧ i1 < 72) {V : Nat → Nat} {nv : Nat} {l : Po} (hL : qL V nv ai al (i1).toNat l) (hne : i1 ≠ 68) : vm_Rp 1 23 99 [.ref 238, .int (vz i1)] vh (fun r v1 => (∃ (sc1 : Nat → Int) (ai1 : Nat → Nat → Int) (al1 : Nat → Nat → Int64), (cpQ V nv ai ai1 al al1 68 l ∧ sc1 = u1 sc 13 1) ∧ tmok ai1 ∧ tm sc1 ai1 al1 az v0 v1) ∧ r = none) := by
  refine w_in (m := 0) ?_
  show vm_Wp _ _ _ 0 [some (.ref 238), some (.int (vz i1))] [] _ _
  refine w_ldA e99_0 (fun _ => rfl) rfl ?_
  refine w_ldI e99_1 (fun _ => rfl) rfl ?_
  refine w_kB e99_2 rfl ?_
  have e1 := tm_o hM
  refine w_cv e99_4 (by decide) rfl e1 rfl (Nat.le_of_ble_eq_true rfl) (Nat.le_of_ble_eq_true rfl) (Nat.le_of_ble_eq_true rfl) (by decide) (by decide) (r81 hM hK (by omega) (by omega) hL hne) (fun o2 v3 hq4 => ?_)
  obtain ⟨⟨al5, ai6, hc7, hK8, hM9⟩, rfl⟩ := hq4
  refine w_ldA e99_7 (fun _ => rfl) rfl ?_
  refine w_kI e99_8 ?_
  have e10 := tm_o hM9
  refine w_put e99_9 e10 (Nat.le_of_ble_eq_true rfl) (vz_okz (by omega)) (fun v13 b11 h12 => ?_)
  obtain ⟨sc14, hd16, hM15⟩ : ∃ z, z = u1 sc 13 (1) ∧ tm z ai6 al5 az v0 v13 := ⟨_, rfl, tm_ps 13 hM9 (by omega) b11 h12⟩
  exact w_rv e99_12 rfl ⟨⟨sc14, ai6, al5, ⟨hc7, hd16⟩, hK8, hM15⟩, rfl⟩
