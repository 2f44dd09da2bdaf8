set_option maxRecDepth 100000 in
set_option maxHeartbeats 4000000 in
theorem r92_L {sc : Nat → Int} {ai : Nat → Nat → Int} {al : Nat → Nat → Int64} {az : Nat → Nat → Int32} {v0 : vm_H} (hK : tmok ai) {i1 : Int} (hi_1 : -2147483648 ≤ i1 ∧ i1 < 2147483648) {i2 : Int} (hi_2 : -2147483648 ≤ i2 ∧ i2 < 2147483648) {i3 : Int} (hi_3 : -2147483648 ≤ i3 ∧ i3 < 2147483648) {i4 : Int} (hi_4 : -2147483648 ≤ i4 ∧ i4 < 2147483648) {V : Nat → Nat} {nv p d : Nat} {l : Po} (hL : qL V nv ai al 69 l) (hgl : ∀ x, x ∈ l → x.1 < 256 ^ nv) (hV : pmV V nv) (hp : p < nv) (hv2 : i3 = (V p : Int)) (hd3 : i2 = (d : Int)) (h27 : 0 ≤ sc 27 ∧ sc 27 < 256) (h28 : 0 ≤ sc 28 ∧ sc 28 + 60 ≤ 12300) : ∀ N : Nat, (∀ (vh : vm_H) (sc_ : Nat → Int) (ai_ : Nat → Nat → Int) (al_ : Nat → Nat → Int64) (x5 : Int), (tm sc_ ai_ al_ az v0 vh) → (tmok ai_) → (0 ≤ x5 ∧ x5 ≤ ai_ 242 70) → (ksI sc sc_ ai ai_ al al_ i1 x5) → ((60 - x5 : Int).toNat < N) → vm_Wp 2 49 92 50 [some (.ref 238), some (.int (vz i1)), some (.int (vz i2)), some (.int (vz i3)), some (.int (vz i4)), some (.int (vz x5))] [] vh (vq_P 92 (fun r v1 => (∃ (sc1 : Nat → Int) (ai1 : Nat → Nat → Int) (al1 : Nat → Nat → Int64) (x : Int), (0 ≤ x ∧ x ≤ 60) ∧ (ksF sc sc1 ai ai1 al al1 i1 ∧ sc1 27 = sc 27 + 1 ∧ sc1 28 = sc 28 + x) ∧ tmok ai1 ∧ tm sc1 ai1 al1 az v0 v1) ∧ r = none))) := by
  intro N
  induction N with
  | zero => exact (by intros; omega)
  | succ N ih =>
    ·
      intro vh sc_ ai_ al_ x5 hM hK_ hx5 hi0q hN
      have h70 := hK_.1 70
      have h7_ := hi0q.2.1
      have h8_ := hi0q.2.2
      refine w_ldI e92_50 (fun _ => rfl) rfl ?_
      refine w_ldA e92_52 (fun _ => rfl) rfl ?_
      have e42 := tm_o hM
      refine w_get e92_53 e42 rfl ?_
      refine w_kB e92_56 rfl ?_
      have e43 := tm_i hM (a := 242) (n := 72) rfl
      refine w_ald e92_58 e43 (by omega) (by omega) (by decide) ?_
      show vm_Wp _ _ _ 59 _ [.int (vz (ai_ 242 70)), .int (vz x5)] _ _
      have hk44 := hK_.1 70
      refine w_ic e92_59 (by omega) (tm_r hM 242 70) (fun (h45 : ai_ 242 70 ≤ x5) => ?_) (fun (h45 : x5 < ai_ 242 70) => ?_)
      ·
        refine w_ldA e92_129 (fun _ => rfl) rfl ?_
        refine w_x e92_130 (fun _ => rfl) ?_
        refine w_get e92_131 e42 rfl ?_
        refine w_kI e92_134 ?_
        refine w_iadd e92_135 ?_
        refine w_put e92_136 e42 (Nat.le_of_ble_eq_true rfl) rfl (fun v48 b46 h47 => ?_)
        obtain ⟨sc49, hd51, hM50⟩ : ∃ z, z = u1 sc_ 27 ((sc_ 27) + 1) ∧ tm z ai_ al_ az v0 v48 := ⟨_, rfl, tm_ps 27 hM (by omega) b46 h47⟩
        exact w_rv e92_139 rfl ⟨⟨sc49, ai_, al_, x5, by omega, ks_e hi0q rfl hd51, hK_, hM50⟩, rfl⟩
      ·
        refine w_ldA e92_62 (fun _ => rfl) rfl ?_
        refine w_get e92_63 e42 rfl ?_
        refine w_ldA e92_66 (fun _ => rfl) rfl ?_
        refine w_get e92_67 e42 rfl ?_
        refine w_ldA e92_70 (fun _ => rfl) rfl ?_
        refine w_get e92_71 e42 rfl ?_
        refine w_kS e92_74 rfl ?_
        refine w_ldI e92_77 (fun _ => rfl) rfl ?_
        refine w_iadd e92_79 ?_
        have e52 := tm_l hM (a := 243) (n := 4320) rfl
        refine w_lld e92_80 e52 (by omega) (by omega) (by decide) ?_
        have e53 := tm_l hM (a := 255) (n := 12300) rfl
        refine w_lst e92_81 e53 (by omega) (by omega) (by decide) (fun v56 b54 h55 => ?_)
        obtain ⟨al57, hd59, hM58⟩ : ∃ z, z = u2 al_ 255 (sc_ 28).toNat ((al_ 243 (4200 + x5).toNat)) ∧ tm sc_ ai_ z az v0 v56 := ⟨_, rfl, tm_pl hM rfl b54 h55⟩
        refine w_ldA e92_82 (fun _ => rfl) rfl ?_
        have e60 := tm_o hM58
        refine w_get e92_83 e60 rfl ?_
        refine w_ldA e92_86 (fun _ => rfl) rfl ?_
        refine w_get e92_87 e60 rfl ?_
        refine w_ldA e92_90 (fun _ => rfl) rfl ?_
        refine w_get e92_91 e60 rfl ?_
        refine w_kS e92_94 rfl ?_
        refine w_ldI e92_97 (fun _ => rfl) rfl ?_
        refine w_iadd e92_99 ?_
        have e61 := tm_l hM58 (a := 244) (n := 4320) rfl
        refine w_lld e92_100 e61 (by omega) (by omega) (by decide) ?_
        refine w_ldI e92_101 (fun _ => rfl) rfl ?_
        refine w_ldI e92_102 (fun _ => rfl) rfl ?_
        refine w_isub e92_104 ?_
        refine w_x e92_105 (fun _ => rfl) ?_
        refine w_kB e92_106 rfl ?_
        refine w_ldI e92_108 (fun _ => rfl) rfl ?_
        refine w_imul e92_109 ?_
        refine w_x e92_110 (fun _ => rfl) ?_
        refine w_x e92_111 (fun _ => rfl) ?_
        have e62 := tm_l hM58 (a := 256) (n := 12300) rfl
        refine w_lst e92_112 e62 (by omega) (by omega) (by decide) (fun v65 b63 h64 => ?_)
        obtain ⟨al66, hd68, hM67⟩ : ∃ z, z = u2 al57 256 (sc_ 28).toNat ((((al57 244 (4200 + x5).toNat)) + (((((vz (i2 - i4)).toInt64)) <<< ((vz (8 * i3)).toInt64 &&& 63))))) ∧ tm sc_ ai_ z az v0 v65 := ⟨_, rfl, tm_pl hM58 rfl b63 h64⟩
        refine w_ldA e92_113 (fun _ => rfl) rfl ?_
        refine w_x e92_114 (fun _ => rfl) ?_
        have e69 := tm_o hM67
        refine w_get e92_115 e69 rfl ?_
        refine w_kI e92_118 ?_
        refine w_iadd e92_119 ?_
        refine w_put e92_120 e69 (Nat.le_of_ble_eq_true rfl) rfl (fun v72 b70 h71 => ?_)
        obtain ⟨sc73, hd75, hM74⟩ : ∃ z, z = u1 sc_ 28 ((sc_ 28) + 1) ∧ tm z ai_ al66 az v0 v72 := ⟨_, rfl, tm_ps 28 hM67 (by omega) b70 h71⟩
        refine w_iinc (A1 := [some (.ref 238), some (.int (vz i1)), some (.int (vz i2)), some (.int (vz i3)), some (.int (vz i4)), some (.int (vz (x5 + 1)))]) e92_123 rfl (by decide) rfl ?_
        refine w_x e92_126 (fun _ => rfl) ?_
        exact w_sub (A1 := [some (.ref 238), some (.int (vz i1)), some (.int (vz i2)), some (.int (vz i3)), some (.int (vz i4)), some (.int (vz (x5 + 1)))]) (And.intro rfl (And.intro rfl (And.intro rfl (And.intro rfl (And.intro rfl (And.intro rfl trivial)))))) ((ih) v72 sc73 ai_ al66 (x5 + 1) hM74 hK_ (by omega) (ks_s hi0q hd59 hd68 rfl hd75) (by omega))
set_option maxRecDepth 100000 in
set_option maxHeartbeats 4000000 in
theorem r92 {sc : Nat → Int} {ai : Nat → Nat → Int} {al : Nat → Nat → Int64} {az : Nat → Nat → Int32} {v0 vh : vm_H} (hM : tm sc ai al az v0 vh) (hK : tmok ai) {i1 : Int} (hi_1 : -2147483648 ≤ i1 ∧ i1 < 2147483648) {i2 : Int} (hi_2 : -2147483648 ≤ i2 ∧ i2 < 2147483648) {i3 : Int} (hi_3 : -2147483648 ≤ i3 ∧ i3 < 2147483648) {i4 : Int} (hi_4 : -2147483648 ≤ i4 ∧ i4 < 2147483648) {V : Nat → Nat} {nv p d : Nat} {l : Po} (hL : qL V nv ai al 69 l) (hgl : ∀ x, x ∈ l → x.1 < 256 ^ nv) (hV : pmV V nv) (hp : p < nv) (hv2 : i3 = (V p : Int)) (hd3 : i2 = (d : Int)) (h27 : 0 ≤ sc 27 ∧ sc 27 < 256) (h28 : 0 ≤ sc 28 ∧ sc 28 + 60 ≤ 12300) : vm_Rp 2 49 92 [.ref 238, .int (vz i1), .int (vz i2), .int (vz i3), .int (vz i4)] vh (fun r v1 => (∃ (sc1 : Nat → Int) (ai1 : Nat → Nat → Int) (al1 : Nat → Nat → Int64) (x : Int), (0 ≤ x ∧ x ≤ 60) ∧ (ksF sc sc1 ai ai1 al al1 i1 ∧ sc1 27 = sc 27 + 1 ∧ sc1 28 = sc 28 + x) ∧ tmok ai1 ∧ tm sc1 ai1 al1 az v0 v1) ∧ r = none) := by
  refine w_in (m := 1) ?_
  show vm_Wp _ _ _ 0 [some (.ref 238), some (.int (vz i1)), some (.int (vz i2)), some (.int (vz i3)), some (.int (vz i4)), none] [] _ _
  refine w_ldA e92_0 (fun _ => rfl) rfl ?_
  refine w_kB e92_1 rfl ?_
  refine w_ldI e92_3 (fun _ => rfl) rfl ?_
  refine w_ldI e92_4 (fun _ => rfl) rfl ?_
  have e1 := tm_o hM
  refine w_cv e92_5 (by decide) rfl e1 rfl (Nat.le_of_ble_eq_true rfl) (Nat.le_of_ble_eq_true rfl) (Nat.le_of_ble_eq_true rfl) (by decide) (by decide) (r87 hM hK (by omega) hi_3 hi_2 (by decide) hL hgl hV hp hv2 hd3) (fun o2 v3 hq4 => ?_)
  obtain ⟨⟨al5, ai6, hl7, hK8, hM9⟩, rfl⟩ := hq4
  have hk10 := hK8.1 70
  have hk11 := hK8.1 69
  refine w_ldA e92_8 (fun _ => rfl) rfl ?_
  have e12 := tm_o hM9
  refine w_get e92_9 e12 rfl ?_
  refine w_ldA e92_12 (fun _ => rfl) rfl ?_
  refine w_get e92_13 e12 rfl ?_
  refine w_ldI e92_16 (fun _ => rfl) rfl ?_
  have e13 := tm_i hM9 (a := 252) (n := 256) rfl
  refine w_ast e92_17 e13 (by omega) (by omega) (by decide) (by decide) (fun v16 b14 h15 => ?_)
  obtain ⟨ai17, hd19, hM18⟩ : ∃ z, z = u2 ai6 252 (sc 27).toNat i1 ∧ tm sc z al5 az v0 v16 := ⟨_, rfl, tm_pi hM9 rfl hi_1 b14 h15⟩
  have hK20 : tmok ai17 := by rw [hd19]; exact tmok_u hK8 (by decide) (by decide)
  refine w_ldA e92_18 (fun _ => rfl) rfl ?_
  have e21 := tm_o hM18
  refine w_get e92_19 e21 rfl ?_
  refine w_ldA e92_22 (fun _ => rfl) rfl ?_
  refine w_get e92_23 e21 rfl ?_
  refine w_ldA e92_26 (fun _ => rfl) rfl ?_
  refine w_get e92_27 e21 rfl ?_
  have e22 := tm_i hM18 (a := 253) (n := 256) rfl
  refine w_ast e92_30 e22 (by omega) (by omega) (by decide) (by decide) (fun v25 b23 h24 => ?_)
  obtain ⟨ai26, hd28, hM27⟩ : ∃ z, z = u2 ai17 253 (sc 27).toNat (sc 28) ∧ tm sc z al5 az v0 v25 := ⟨_, rfl, tm_pi hM18 rfl (tm_s hM18 28) b23 h24⟩
  have hK29 : tmok ai26 := by rw [hd28]; exact tmok_u hK20 (by decide) (by decide)
  refine w_ldA e92_31 (fun _ => rfl) rfl ?_
  have e30 := tm_o hM27
  refine w_get e92_32 e30 rfl ?_
  refine w_ldA e92_35 (fun _ => rfl) rfl ?_
  refine w_get e92_36 e30 rfl ?_
  refine w_ldA e92_39 (fun _ => rfl) rfl ?_
  refine w_get e92_40 e30 rfl ?_
  refine w_kB e92_43 rfl ?_
  have e31 := tm_i hM27 (a := 242) (n := 72) rfl
  refine w_ald e92_45 e31 (by omega) (by omega) (by decide) ?_
  show vm_Wp _ _ _ 46 _ [.int (vz (ai26 242 70)), .int (vz (sc 27)), .ref 254] _ _
  have hk32 := hK29.1 70
  have e33 := tm_i hM27 (a := 254) (n := 256) rfl
  refine w_ast e92_46 e33 (by omega) (by omega) (by decide) (by decide) (fun v36 b34 h35 => ?_)
  obtain ⟨ai37, hd39, hM38⟩ : ∃ z, z = u2 ai26 254 (sc 27).toNat (ai26 242 70) ∧ tm sc z al5 az v0 v36 := ⟨_, rfl, tm_pi hM27 rfl (tm_r hM27 242 70) b34 h35⟩
  have hK40 : tmok ai37 := by rw [hd39]; exact tmok_u hK29 (by decide) (by decide)
  have hk41 := hK40.1 70
  refine w_kI e92_47 ?_
  refine w_stI (j := 5) (A1 := [some (.ref 238), some (.int (vz i1)), some (.int (vz i2)), some (.int (vz i3)), some (.int (vz i4)), some (.int (vz 0))]) e92_48 (fun _ => rfl) (by decide) rfl ?_
  exact w_sub (A1 := [some (.ref 238), some (.int (vz i1)), some (.int (vz i2)), some (.int (vz i3)), some (.int (vz i4)), some (.int (vz 0))]) (And.intro rfl (And.intro rfl (And.intro rfl (And.intro rfl (And.intro rfl (And.intro rfl trivial)))))) (((r92_L (sc := sc) (ai := ai) (al := al) (az := az) (v0 := v0) (i1 := i1) (i2 := i2) (i3 := i3) (i4 := i4) (V := V) (nv := nv) (p := p) (d := d) (l := l) hK hi_1 hi_2 hi_3 hi_4 hL hgl hV hp hv2 hd3 h27 h28 _)) v36 sc ai37 al5 0 hM38 hK40 (by omega) (ks_0 hl7 rfl hd19 hd28 hd39) (Nat.lt_succ_self _))
set_option maxRecDepth 100000 in
set_option maxHeartbeats 4000000 in
theorem r93k_L {sc : Nat → Int} {ai : Nat → Nat → Int} {al : Nat → Nat → Int64} {az : Nat → Nat → Int32} {v0 : vm_H} (hK : tmok ai) {i1 : Int} (hi_1 : 0 ≤ i1 ∧ i1 ≤ 1) {i2 : Int} (hi_2 : 0 ≤ i2 ∧ i2 ≤ 200) {fr : Nat → Bool} {V : Nat → Nat} {nv n : Nat} {S : Nat → Po × Nat × Nat} {f0 : Po} (hv : sc 1 = (nv : Int)) (hvr : vR ai = V) (hfr : frR az ai = fr) (hV : pmV V nv) (hG0 : tbG V nv sc ai al az []) (hL : qL V nv ai al 69 f0) (hg : gk nv f0) (hb : bsQ fr V nv ai al n S) (hn : sc 40 = (n : Int)) (hn8 : n ≤ 8) (hk1 : i1 = 1) (hkp : sc 27 = 0 ∧ sc 28 = 0) : ∀ N : Nat, (∀ (vh : vm_H) (sc_ : Nat → Int) (ai_ : Nat → Nat → Int) (al_ : Nat → Nat → Int64) (az_ : Nat → Nat → Int32) (x3 : Int), (tm sc_ ai_ al_ az_ v0 vh) → (tmok ai_) → (-1 ≤ x3 ∧ x3 < sc 40) → (rdJ V nv S (i2).toNat n f0 sc sc_ ai ai_ al al_ az az_ x3) → (kpI sc_ ai_ (sc_ 41)) → (((x3 + 1) * 1000 + 999 : Int).toNat < N) → vm_Wp 5 132 93 12 [some (.ref 238), some (.int (vz i1)), some (.int (vz i2)), some (.int (vz x3)), none, none] [] vh (vq_P 93 (fun r v1 => ∃ (sc1 : Nat → Int) (ai1 : Nat → Nat → Int) (al1 : Nat → Nat → Int64) (az1 : Nat → Nat → Int32) (q : Int), rdR V nv (rdP S (i2).toNat n f0) sc sc1 ai ai1 al al1 az az1 q ∧ (q = 1 → kpI sc1 ai1 (sc1 41)) ∧ r = some (.int (vz q)) ∧ tmok ai1 ∧ tm sc1 ai1 al1 az1 v0 v1))) ∧ (∀ (vh : vm_H) (sc_ : Nat → Int) (ai_ : Nat → Nat → Int) (al_ : Nat → Nat → Int64) (az_ : Nat → Nat → Int32) (x3 : Int) (x4 : Int) (x5 : Int), (tm sc_ ai_ al_ az_ v0 vh) → (tmok ai_) → (0 ≤ x3 ∧ x3 < sc 40) → (-2147483648 ≤ x4 ∧ x4 < 2147483648) → (-2147483648 ≤ x5 ∧ x5 < 2147483648) → (rdJ V nv S (i2).toNat n f0 sc sc_ ai ai_ al al_ az az_ x3) → (kpI sc_ ai_ (sc_ 41)) → (x4 = (V (S (x3).toNat).2.1 : Int)) → (x5 = ((S (x3).toNat).2.2 : Int)) → (((x3 + 1) * 1000 + 300 - sc_ 41 : Int).toNat < N) → vm_Wp 5 132 93 47 [some (.ref 238), some (.int (vz i1)), some (.int (vz i2)), some (.int (vz x3)), some (.int (vz x4)), some (.int (vz x5))] [] vh (vq_P 93 (fun r v1 => ∃ (sc1 : Nat → Int) (ai1 : Nat → Nat → Int) (al1 : Nat → Nat → Int64) (az1 : Nat → Nat → Int32) (q : Int), rdR V nv (rdP S (i2).toNat n f0) sc sc1 ai ai1 al al1 az az1 q ∧ (q = 1 → kpI sc1 ai1 (sc1 41)) ∧ r = some (.int (vz q)) ∧ tmok ai1 ∧ tm sc1 ai1 al1 az1 v0 v1))) := by
  intro N
  induction N with
  | zero => exact ⟨by intros; omega, by intros; omega⟩
  | succ N ih =>
    refine ⟨?_, ?_⟩
    ·
      intro vh sc_ ai_ al_ az_ x3 hM hK_ hx3 hi0q hi1 hN
      have hi0b := hi0q
      obtain ⟨f, hQ, hGt, ⟨h41, hre⟩, hRH⟩ := hi0b
      have hvr_ : vR ai_ = V := (rH_vR hRH).trans hvr
      have hfr_ : frR az_ ai_ = fr := (rH_fr hRH).trans hfr
      have hb_ := rH_bs hRH hK hb
      have hv_ : sc_ 1 = (nv : Int) := by rw [hRH.1 1 (by decide) (by decide) (by decide) (by decide)]; exact hv
      have hn_ : sc_ 40 = (n : Int) := by rw [hRH.1 40 (by decide) (by decide) (by decide) (by decide)]; exact hn
      have hQl := hQ.1.1
      have hVn := hV.1
      have hkk := hi1
      have hk27 := hkk.1
      have hk28 := hkk.2.1
      refine w_ldI e93_12 (fun _ => rfl) rfl ?_
      refine w_if e93_13 (by omega) (fun (h9 : x3 < 0) => ?_) (fun (h9 : 0 ≤ x3) => ?_)
      ·
        refine w_kI e93_139 ?_
        exact w_rz e93_140 rfl (by omega) ⟨sc_, ai_, al_, az_, 1, rdR_t hQ hGt h41 hre hRH (by omega), fun _ => hkk, rfl, hK_, hM⟩
      ·
        refine w_ldA e93_16 (fun _ => rfl) rfl ?_
        have e10 := tm_o hM
        refine w_get e93_17 e10 rfl ?_
        refine w_ldA e93_20 (fun _ => rfl) rfl ?_
        refine w_ldA e93_21 (fun _ => rfl) rfl ?_
        refine w_get e93_22 e10 rfl ?_
        refine w_ldI e93_25 (fun _ => rfl) rfl ?_
        have e11 := tm_i hM (a := 261) (n := 8) rfl
        refine w_ald e93_26 e11 (by omega) (by omega) (by decide) ?_
        show vm_Wp _ _ _ 27 _ [.int (vz (ai_ 261 (x3).toNat)), .ref 238, .ref 240] _ _
        have hmm := (hb_ (x3).toNat (by omega)).1
        refine w_cv e93_27 (by decide) rfl e10 rfl (Nat.le_of_ble_eq_true rfl) (Nat.le_of_ble_eq_true rfl) (Nat.le_of_ble_eq_true rfl) (by decide) (by decide) (c86 hM hK_ (by omega) (by omega)) (fun o12 v13 hq14 => ?_)
        obtain ⟨rfl, rfl⟩ := hq14
        have hp15 := mpf_bd (az_ 239) (ai_ 240) (fun v => dgf (al_ 244) (60 * (ai_ 261 (x3).toNat)).toNat v (ai_ 242 (ai_ 261 (x3).toNat).toNat).toNat) (sc_ 1).toNat
        show vm_Wp _ _ _ 30 _ [.int (vz (mpf (az_ 239) (ai_ 240) (fun v => dgf (al_ 244) (60 * (ai_ 261 (x3).toNat)).toNat v (ai_ 242 (ai_ 261 (x3).toNat).toNat).toNat) (sc_ 1).toNat)), .ref 240] _ _
        have hmp : mpf (az_ 239) (ai_ 240) (fun v => dgf (al_ 244) (60 * (ai_ 261 (x3).toNat)).toNat v (ai_ 242 (ai_ 261 (x3).toNat).toNat).toNat) (sc_ 1).toNat = ((S (x3).toNat).2.1 : Int) := by rw [re_mp (hb_ (x3).toNat (by omega)).2.1.1 hV hvr_ hK_ (hv_) (by omega), hfr_]; exact (hb_ (x3).toNat (by omega)).2.2.1
        have hpb := pl_bd (fr := fr) (nv := nv) (f := (S (x3).toNat).1)
        have hpc := (hb_ (x3).toNat (by omega)).2.2.1
        have e16 := tm_i hM (a := 240) (n := 8) rfl
        refine w_ald e93_30 e16 (by omega) (by omega) (by decide) ?_
        show vm_Wp _ _ _ 31 _ [.int (vz (ai_ 240 (mpf (az_ 239) (ai_ 240) (fun v => dgf (al_ 244) (60 * (ai_ 261 (x3).toNat)).toNat v (ai_ 242 (ai_ 261 (x3).toNat).toNat).toNat) (sc_ 1).toNat).toNat))] _ _
        have hk17 := hK_.2 (mpf (az_ 239) (ai_ 240) (fun v => dgf (al_ 244) (60 * (ai_ 261 (x3).toNat)).toNat v (ai_ 242 (ai_ 261 (x3).toNat).toNat).toNat) (sc_ 1).toNat).toNat
        have hvv : ai_ 240 (mpf (az_ 239) (ai_ 240) (fun v => dgf (al_ 244) (60 * (ai_ 261 (x3).toNat)).toNat v (ai_ 242 (ai_ 261 (x3).toNat).toNat).toNat) (sc_ 1).toNat).toNat = (V (S (x3).toNat).2.1 : Int) := by rw [hmp, Int.toNat_natCast]; exact re_o hK_ hvr_
        refine w_stI (j := 4) (A1 := [some (.ref 238), some (.int (vz i1)), some (.int (vz i2)), some (.int (vz x3)), some (.int (vz (ai_ 240 (mpf (az_ 239) (ai_ 240) (fun v => dgf (al_ 244) (60 * (ai_ 261 (x3).toNat)).toNat v (ai_ 242 (ai_ 261 (x3).toNat).toNat).toNat) (sc_ 1).toNat).toNat))), none]) e93_31 (fun _ => rfl) (by decide) rfl ?_
        refine w_ldA e93_33 (fun _ => rfl) rfl ?_
        refine w_ldA e93_34 (fun _ => rfl) rfl ?_
        refine w_get e93_35 e10 rfl ?_
        refine w_ldI e93_38 (fun _ => rfl) rfl ?_
        refine w_ald e93_39 e11 (by omega) (by omega) (by decide) ?_
        show vm_Wp _ _ _ 40 _ [.int (vz (ai_ 261 (x3).toNat)), .ref 238] _ _
        have hm18 := (hb_ (x3).toNat (by omega)).1
        refine w_ldI e93_40 (fun _ => rfl) rfl ?_
        refine w_cv e93_42 (by decide) rfl e10 rfl (Nat.le_of_ble_eq_true rfl) (Nat.le_of_ble_eq_true rfl) (Nat.le_of_ble_eq_true rfl) (by decide) (by decide) (c85 hM hK_ (by omega) (tm_r hM 240 (mpf (az_ 239) (ai_ 240) (fun v => dgf (al_ 244) (60 * (ai_ 261 (x3).toNat)).toNat v (ai_ 242 (ai_ 261 (x3).toNat).toNat).toNat) (sc_ 1).toNat).toNat)) (fun o19 v20 hq21 => ?_)
        obtain ⟨rfl, rfl⟩ := hq21
        have hp22 := dgf_bd (al_ 244) (60 * (ai_ 261 (x3).toNat)).toNat (ai_ 240 (mpf (az_ 239) (ai_ 240) (fun v => dgf (al_ 244) (60 * (ai_ 261 (x3).toNat)).toNat v (ai_ 242 (ai_ 261 (x3).toNat).toNat).toNat) (sc_ 1).toNat).toNat) (ai_ 242 (ai_ 261 (x3).toNat).toNat).toNat
        show vm_Wp _ _ _ 45 _ [.int (vz (dgf (al_ 244) (60 * (ai_ 261 (x3).toNat)).toNat (ai_ 240 (mpf (az_ 239) (ai_ 240) (fun v => dgf (al_ 244) (60 * (ai_ 261 (x3).toNat)).toNat v (ai_ 242 (ai_ 261 (x3).toNat).toNat).toNat) (sc_ 1).toNat).toNat) (ai_ 242 (ai_ 261 (x3).toNat).toNat).toNat))] _ _
        have hee : dgf (al_ 244) (60 * (ai_ 261 (x3).toNat)).toNat (ai_ 240 (mpf (az_ 239) (ai_ 240) (fun v => dgf (al_ 244) (60 * (ai_ 261 (x3).toNat)).toNat v (ai_ 242 (ai_ 261 (x3).toNat).toNat).toNat) (sc_ 1).toNat).toNat) (ai_ 242 (ai_ 261 (x3).toNat).toNat).toNat = ((S (x3).toNat).2.2 : Int) := by rw [qL_dg (hb_ (x3).toNat (by omega)).2.1.1 hV (by omega) hvv (by omega), ← (hb_ (x3).toNat (by omega)).2.2.2]
        refine w_stI (j := 5) (A1 := [some (.ref 238), some (.int (vz i1)), some (.int (vz i2)), some (.int (vz x3)), some (.int (vz (ai_ 240 (mpf (az_ 239) (ai_ 240) (fun v => dgf (al_ 244) (60 * (ai_ 261 (x3).toNat)).toNat v (ai_ 242 (ai_ 261 (x3).toNat).toNat).toNat) (sc_ 1).toNat).toNat))), some (.int (vz (dgf (al_ 244) (60 * (ai_ 261 (x3).toNat)).toNat (ai_ 240 (mpf (az_ 239) (ai_ 240) (fun v => dgf (al_ 244) (60 * (ai_ 261 (x3).toNat)).toNat v (ai_ 242 (ai_ 261 (x3).toNat).toNat).toNat) (sc_ 1).toNat).toNat) (ai_ 242 (ai_ 261 (x3).toNat).toNat).toNat)))]) e93_45 (fun _ => rfl) (by decide) rfl ?_
        exact w_sub (A1 := [some (.ref 238), some (.int (vz i1)), some (.int (vz i2)), some (.int (vz x3)), some (.int (vz (ai_ 240 (mpf (az_ 239) (ai_ 240) (fun v => dgf (al_ 244) (60 * (ai_ 261 (x3).toNat)).toNat v (ai_ 242 (ai_ 261 (x3).toNat).toNat).toNat) (sc_ 1).toNat).toNat))), some (.int (vz (dgf (al_ 244) (60 * (ai_ 261 (x3).toNat)).toNat (ai_ 240 (mpf (az_ 239) (ai_ 240) (fun v => dgf (al_ 244) (60 * (ai_ 261 (x3).toNat)).toNat v (ai_ 242 (ai_ 261 (x3).toNat).toNat).toNat) (sc_ 1).toNat).toNat) (ai_ 242 (ai_ 261 (x3).toNat).toNat).toNat)))]) (And.intro rfl (And.intro rfl (And.intro rfl (And.intro rfl (And.intro rfl (And.intro rfl trivial)))))) ((ih.2) vh sc_ ai_ al_ az_ x3 (ai_ 240 (mpf (az_ 239) (ai_ 240) (fun v => dgf (al_ 244) (60 * (ai_ 261 (x3).toNat)).toNat v (ai_ 242 (ai_ 261 (x3).toNat).toNat).toNat) (sc_ 1).toNat).toNat) (dgf (al_ 244) (60 * (ai_ 261 (x3).toNat)).toNat (ai_ 240 (mpf (az_ 239) (ai_ 240) (fun v => dgf (al_ 244) (60 * (ai_ 261 (x3).toNat)).toNat v (ai_ 242 (ai_ 261 (x3).toNat).toNat).toNat) (sc_ 1).toNat).toNat) (ai_ 242 (ai_ 261 (x3).toNat).toNat).toNat) hM hK_ (by omega) (tm_r hM 240 (mpf (az_ 239) (ai_ 240) (fun v => dgf (al_ 244) (60 * (ai_ 261 (x3).toNat)).toNat v (ai_ 242 (ai_ 261 (x3).toNat).toNat).toNat) (sc_ 1).toNat).toNat) (by omega) hi0q hi1 hvv hee (by omega))
    ·
      intro vh sc_ ai_ al_ az_ x3 x4 x5 hM hK_ hx3 hx4 hx5 hi0q hi1 hi2 hi3 hN
      have hi0b := hi0q
      obtain ⟨f, hQ, hGt, ⟨h41, hre⟩, hRH⟩ := hi0b
      have hvr_ : vR ai_ = V := (rH_vR hRH).trans hvr
      have hfr_ : frR az_ ai_ = fr := (rH_fr hRH).trans hfr
      have hb_ := rH_bs hRH hK hb
      have hv_ : sc_ 1 = (nv : Int) := by rw [hRH.1 1 (by decide) (by decide) (by decide) (by decide)]; exact hv
      have hn_ : sc_ 40 = (n : Int) := by rw [hRH.1 40 (by decide) (by decide) (by decide) (by decide)]; exact hn
      have hQl := hQ.1.1
      have hVn := hV.1
      have hkk := hi1
      have hk27 := hkk.1
      have hk28 := hkk.2.1
      have hpb := pl_bd (fr := fr) (nv := nv) (f := (S (x3).toNat).1)
      have hpc := (hb_ (x3).toNat (by omega)).2.2.1
      have hpn : (S (x3).toNat).2.1 < nv := by omega
      have hVp := hV.2.1 _ hpn
      have h69K := hK_.1 69
      refine w_ldA e93_47 (fun _ => rfl) rfl ?_
      have e23 := tm_o hM
      refine w_get e93_48 e23 rfl ?_
      refine w_kB e93_51 rfl ?_
      have e24 := tm_i hM (a := 242) (n := 72) rfl
      refine w_ald e93_53 e24 (by omega) (by omega) (by decide) ?_
      show vm_Wp _ _ _ 54 _ [.int (vz (ai_ 242 69))] _ _
      have hk25 := hK_.1 69
      refine w_if e93_54 (tm_r hM 242 69) (fun (h26 : ai_ 242 69 ≤ 0) => ?_) (fun (h26 : 0 < ai_ 242 69) => ?_)
      ·
        refine w_iinc (A1 := [some (.ref 238), some (.int (vz i1)), some (.int (vz i2)), some (.int (vz (x3 + (-1)))), some (.int (vz x4)), some (.int (vz x5))]) e93_133 rfl (by decide) rfl ?_
        refine w_x e93_136 (fun _ => rfl) ?_
        exact w_sub (A1 := [some (.ref 238), some (.int (vz i1)), some (.int (vz i2)), some (.int (vz (x3 + (-1)))), none, none]) (And.intro rfl (And.intro rfl (And.intro rfl (And.intro rfl trivial)))) ((ih.1) vh sc_ ai_ al_ az_ (x3 + (-1)) hM hK_ (by omega) (rdJ_n hQ hGt h41 hre hRH (by omega) (fun z => z.1 (List.eq_nil_of_length_eq_zero (by omega)))) hkk (by omega))
      ·
        refine w_ldA e93_57 (fun _ => rfl) rfl ?_
        refine w_kB e93_58 rfl ?_
        refine w_ldI e93_60 (fun _ => rfl) rfl ?_
        refine w_cv e93_62 (by decide) rfl e23 rfl (Nat.le_of_ble_eq_true rfl) (Nat.le_of_ble_eq_true rfl) (Nat.le_of_ble_eq_true rfl) (by decide) (by decide) (c85 hM hK_ (by omega) hx4) (fun o27 v28 hq29 => ?_)
        obtain ⟨rfl, rfl⟩ := hq29
        have hp30 := dgf_bd (al_ 244) (60 * ((69 : Int))).toNat x4 (ai_ 242 ((69 : Int)).toNat).toNat
        show vm_Wp _ _ _ 65 _ [.int (vz (dgf (al_ 244) (60 * ((69 : Int))).toNat x4 (ai_ 242 ((69 : Int)).toNat).toNat))] _ _
        have hdd : dgf (al_ 244) (60 * ((69 : Int))).toNat x4 (ai_ 242 ((69 : Int)).toNat).toNat = (dgP f (S (x3).toNat).2.1 : Int) := qL_dg hQ.1 hV hpn hi2 rfl
        refine w_ldI e93_65 (fun _ => rfl) rfl ?_
        refine w_ic e93_67 (by omega) hx5 (fun (h31 : dgf (al_ 244) (60 * ((69 : Int))).toNat x4 (ai_ 242 ((69 : Int)).toNat).toNat < x5) => ?_) (fun (h31 : x5 ≤ dgf (al_ 244) (60 * ((69 : Int))).toNat x4 (ai_ 242 ((69 : Int)).toNat).toNat) => ?_)
        ·
          refine w_iinc (A1 := [some (.ref 238), some (.int (vz i1)), some (.int (vz i2)), some (.int (vz (x3 + (-1)))), some (.int (vz x4)), some (.int (vz x5))]) e93_133 rfl (by decide) rfl ?_
          refine w_x e93_136 (fun _ => rfl) ?_
          exact w_sub (A1 := [some (.ref 238), some (.int (vz i1)), some (.int (vz i2)), some (.int (vz (x3 + (-1)))), none, none]) (And.intro rfl (And.intro rfl (And.intro rfl (And.intro rfl trivial)))) ((ih.1) vh sc_ ai_ al_ az_ (x3 + (-1)) hM hK_ (by omega) (rdJ_n hQ hGt h41 hre hRH (by omega) (fun z => by have := z.2; omega)) hkk (by omega))
        ·
          have hdue : dueS S f (x3).toNat := ⟨fun z => by rw [z] at hQl; have hQm : ai_ 242 69 = 0 := hQl; omega, by omega⟩
          refine w_ldA e93_70 (fun _ => rfl) rfl ?_
          refine w_get e93_71 e23 rfl ?_
          refine w_ldI e93_74 (fun _ => rfl) rfl ?_
          refine w_ic e93_75 (tm_s hM 41) (by omega) (fun (h32 : sc_ 41 ≠ i2) => ?_) (fun (h32 : sc_ 41 = i2) => ?_)
          ·
            refine w_ldI e93_80 (fun _ => rfl) rfl ?_
            refine w_if e93_81 (by omega) (fun (h33 : i1 = 0) => ?_) (fun (h33 : i1 ≠ 0) => ?_)
            ·
              refine w_ldA e93_101 (fun _ => rfl) rfl ?_
              refine w_ldA e93_102 (fun _ => rfl) rfl ?_
              refine w_get e93_103 e23 rfl ?_
              refine w_ldI e93_106 (fun _ => rfl) rfl ?_
              have e34 := tm_i hM (a := 261) (n := 8) rfl
              refine w_ald e93_107 e34 (by omega) (by omega) (by decide) ?_
              show vm_Wp _ _ _ 108 _ [.int (vz (ai_ 261 (x3).toNat)), .ref 238] _ _
              have hm35 := (hb_ (x3).toNat (by omega)).1
              refine w_ldI e93_108 (fun _ => rfl) rfl ?_
              refine w_ldI e93_110 (fun _ => rfl) rfl ?_
              exfalso; omega
            ·
              refine w_ldA e93_84 (fun _ => rfl) rfl ?_
              refine w_ldI e93_85 (fun _ => rfl) rfl ?_
              refine w_ldA e93_86 (fun _ => rfl) rfl ?_
              refine w_kB e93_87 rfl ?_
              refine w_ldI e93_89 (fun _ => rfl) rfl ?_
              refine w_cv e93_91 (by decide) rfl e23 rfl (Nat.le_of_ble_eq_true rfl) (Nat.le_of_ble_eq_true rfl) (Nat.le_of_ble_eq_true rfl) (by decide) (by decide) (c85 hM hK_ (by omega) hx4) (fun o36 v37 hq38 => ?_)
              obtain ⟨rfl, rfl⟩ := hq38
              have hp39 := dgf_bd (al_ 244) (60 * ((69 : Int))).toNat x4 (ai_ 242 ((69 : Int)).toNat).toNat
              show vm_Wp _ _ _ 94 _ [.int (vz (dgf (al_ 244) (60 * ((69 : Int))).toNat x4 (ai_ 242 ((69 : Int)).toNat).toNat)), .int (vz x3), .ref 238] _ _
              refine w_ldI e93_94 (fun _ => rfl) rfl ?_
              refine w_ldI e93_96 (fun _ => rfl) rfl ?_
              refine w_cv e93_98 (by decide) rfl e23 rfl (Nat.le_of_ble_eq_true rfl) (Nat.le_of_ble_eq_true rfl) (Nat.le_of_ble_eq_true rfl) (by decide) (by decide) (r92 hM hK_ (by omega) (by omega) hx4 hx5 hQ.1 (fun x hx => hQ.2.2.2 x hx) hV hpn hi2 hdd (by omega) (by omega)) (fun o40 v41 hq42 => ?_)
              obtain ⟨⟨sc43, ai44, al45, x46, hx47, hf48, hK49, hM50⟩, rfl⟩ := hq42
              have hs41a : sc43 41 = sc_ 41 := hf48.1.1 41 (by decide) (by decide)
              have hQ4 : qL V nv ai44 al45 69 f := ks_q hf48.1 hQ.1 (hK_.1 69).2
              have hG4 := ks_G hf48.1 hGt
              have hkk2 := ks_k hf48.1 hf48.2.1 hf48.2.2 hx47 hkk (by omega) (by omega)
              have hRH4 := ks_H (az := az_) hf48.1
              have hb4 := rH_bs hRH4 hK_ hb_
              have hvr4 : vR ai44 = V := (rH_vR hRH4).trans hvr_
              have hv4 : sc43 1 = (nv : Int) := by rw [hf48.1.1 1 (by decide) (by decide)]; exact hv_
              have hre4 := hre
              rw [← hs41a] at hre4
              have h261 : ai44 261 = ai_ 261 := hf48.1.2.1.1 261 (by decide) (by decide) (by decide) (by decide)
              have h261b := congrFun h261 (x3).toNat
              refine w_ldA e93_101 (fun _ => rfl) rfl ?_
              refine w_ldA e93_102 (fun _ => rfl) rfl ?_
              have e51 := tm_o hM50
              refine w_get e93_103 e51 rfl ?_
              refine w_ldI e93_106 (fun _ => rfl) rfl ?_
              have e52 := tm_i hM50 (a := 261) (n := 8) rfl
              refine w_ald e93_107 e52 (by omega) (by omega) (by decide) ?_
              show vm_Wp _ _ _ 108 _ [.int (vz (ai44 261 (x3).toNat)), .ref 238] _ _
              have hm53 := (hb_ (x3).toNat (by omega)).1
              refine w_ldI e93_108 (fun _ => rfl) rfl ?_
              refine w_ldI e93_110 (fun _ => rfl) rfl ?_
              refine w_cv e93_112 (by decide) rfl e51 rfl (Nat.le_of_ble_eq_true rfl) (Nat.le_of_ble_eq_true rfl) (Nat.le_of_ble_eq_true rfl) (by decide) (by decide) (r91 hM50 hK49 (by omega) hx4 hx5 hv4 hvr4 hV hG4 hQ4 hQ.2 (hb4 (x3).toNat (by omega)).2.1.1 (hb4 (x3).toNat (by omega)).2.1.2 hpn hi2 hi3 hdue.2) (fun o54 v55 hq56 => ?_)
              obtain ⟨sc57, ai58, al59, az60, q61, ⟨hb62, ho63⟩, rfl, hK64, hM65⟩ := hq56
              have hs41 : sc57 41 = sc_ 41 := by rw [ho63.1.1 41 (by decide)]; exact hs41a
              refine w_if e93_115 (by omega) (fun (h66 : q61 ≠ 0) => ?_) (fun (h66 : q61 = 0) => ?_)
              ·
                obtain ⟨_, g9, hst9, hgL, hgg⟩ := ho63.2.2.resolve_left (fun h9 => by have := h9.1; omega)
                refine w_ldA e93_120 (fun _ => rfl) rfl ?_
                refine w_x e93_121 (fun _ => rfl) ?_
                have e67 := tm_o hM65
                refine w_get e93_122 e67 rfl ?_
                refine w_kI e93_125 ?_
                refine w_iadd e93_126 ?_
                refine w_put e93_127 e67 (Nat.le_of_ble_eq_true rfl) rfl (fun v70 b68 h69 => ?_)
                obtain ⟨sc71, hd73, hM72⟩ : ∃ z, z = u1 sc57 41 ((sc57 41) + 1) ∧ tm z ai58 al59 az60 v0 v70 := ⟨_, rfl, tm_ps 41 hM65 (by omega) b68 h69⟩
                have hs42 : sc71 41 = sc_ 41 + 1 := by rw [hd73, u1_s, hs41]
                refine w_x e93_130 (fun _ => rfl) ?_
                exact w_sub (A1 := [some (.ref 238), some (.int (vz i1)), some (.int (vz i2)), some (.int (vz x3)), some (.int (vz x4)), some (.int (vz x5))]) (And.intro rfl (And.intro rfl (And.intro rfl (And.intro rfl (And.intro rfl (And.intro rfl trivial)))))) ((ih.2) v70 sc71 ai58 al59 az60 x3 x4 x5 hM72 hK64 (by omega) hx4 hx5 (rdJ_s (sc1 := sc43) (by omega) hre4 (rH_tr hRH (ks_H hf48.1)) (by omega) hdue hst9 ⟨hgL, hgg⟩ ho63.2.1 ho63.1 (by rw [ho63.1.1 41 (by decide)]) hd73) (by have h9 := kp_41 (kp_F hkk2 ho63.1) hd73; rw [hs42]; exact h9) hi2 hi3 (by omega))
              ·
                obtain ⟨_, hno9⟩ := ho63.2.2.resolve_right (fun h9 => by have := h9.1; omega)
                refine w_kI e93_118 ?_
                exact w_rz e93_119 rfl (by omega) ⟨sc57, ai58, al59, az60, 0, rdR_f (sc1 := sc43) ho63.2.1 (by omega) hre4 (rH_tr (rH_tr hRH hRH4) (rH_F ho63.1)) (by rw [ho63.1.1 41 (by decide)]) (by rw [show (x3 + 1).toNat = (x3).toNat + 1 by omega]; exact rd_f hdue hno9), fun h9 => absurd h9 (by decide), rfl, hK64, hM65⟩
          ·
            refine w_kI e93_78 ?_
            exact w_rz e93_79 rfl (by omega) ⟨sc_, ai_, al_, az_, 0, rdR_f hGt h41.1 hre hRH rfl (by rw [show (x3 + 1).toNat = (x3).toNat + 1 by omega, show (i2).toNat - (sc_ 41).toNat = 0 by omega]; exact rd_0 hdue), fun h9 => absurd h9 (by decide), rfl, hK_, hM⟩
set_option maxRecDepth 100000 in
set_option maxHeartbeats 4000000 in
theorem r93k {sc : Nat → Int} {ai : Nat → Nat → Int} {al : Nat → Nat → Int64} {az : Nat → Nat → Int32} {v0 vh : vm_H} (hM : tm sc ai al az v0 vh) (hK : tmok ai) {i1 : Int} (hi_1 : 0 ≤ i1 ∧ i1 ≤ 1) {i2 : Int} (hi_2 : 0 ≤ i2 ∧ i2 ≤ 200) {fr : Nat → Bool} {V : Nat → Nat} {nv n : Nat} {S : Nat → Po × Nat × Nat} {f0 : Po} (hv : sc 1 = (nv : Int)) (hvr : vR ai = V) (hfr : frR az ai = fr) (hV : pmV V nv) (hG0 : tbG V nv sc ai al az []) (hL : qL V nv ai al 69 f0) (hg : gk nv f0) (hb : bsQ fr V nv ai al n S) (hn : sc 40 = (n : Int)) (hn8 : n ≤ 8) (hk1 : i1 = 1) (hkp : sc 27 = 0 ∧ sc 28 = 0) : vm_Rp 5 132 93 [.ref 238, .int (vz i1), .int (vz i2)] vh (fun r v1 => ∃ (sc1 : Nat → Int) (ai1 : Nat → Nat → Int) (al1 : Nat → Nat → Int64) (az1 : Nat → Nat → Int32) (q : Int), rdR V nv (rdP S (i2).toNat n f0) sc sc1 ai ai1 al al1 az az1 q ∧ (q = 1 → kpI sc1 ai1 (sc1 41)) ∧ r = some (.int (vz q)) ∧ tmok ai1 ∧ tm sc1 ai1 al1 az1 v0 v1) := by
  refine w_in (m := 3) ?_
  show vm_Wp _ _ _ 0 [some (.ref 238), some (.int (vz i1)), some (.int (vz i2)), none, none, none] [] _ _
  refine w_ldA e93_0 (fun _ => rfl) rfl ?_
  refine w_kI e93_1 ?_
  have e1 := tm_o hM
  refine w_put e93_2 e1 (Nat.le_of_ble_eq_true rfl) rfl (fun v4 b2 h3 => ?_)
  obtain ⟨sc5, hd7, hM6⟩ : ∃ z, z = u1 sc 41 (0) ∧ tm z ai al az v0 v4 := ⟨_, rfl, tm_ps 41 hM (by omega) b2 h3⟩
  have hs40 : sc5 40 = sc 40 := by rw [hd7, u1_o (by decide)]
  refine w_ldA e93_5 (fun _ => rfl) rfl ?_
  have e8 := tm_o hM6
  refine w_get e93_6 e8 rfl ?_
  refine w_kI e93_9 ?_
  refine w_isub e93_10 ?_
  refine w_stI (j := 3) (A1 := [some (.ref 238), some (.int (vz i1)), some (.int (vz i2)), some (.int (vz ((sc5 40) - 1))), none, none]) e93_11 (fun _ => rfl) (by decide) rfl ?_
  exact w_sub (A1 := [some (.ref 238), some (.int (vz i1)), some (.int (vz i2)), some (.int (vz ((sc5 40) - 1))), none, none]) (And.intro rfl (And.intro rfl (And.intro rfl (And.intro rfl trivial)))) (((r93k_L (sc := sc) (ai := ai) (al := al) (az := az) (v0 := v0) (i1 := i1) (i2 := i2) (fr := fr) (V := V) (nv := nv) (n := n) (S := S) (f0 := f0) hK hi_1 hi_2 hv hvr hfr hV hG0 hL hg hb hn hn8 hk1 hkp _).1) v4 sc5 ai al az ((sc5 40) - 1) hM6 hK (by omega) (rdJ_0 hL hg hG0 hd7 (by omega)) (by rw [hd7, u1_s]; exact ⟨by rw [u1_o (by decide)]; exact hkp.1, by rw [u1_o (by decide)]; omega, fun s9 h9 => by omega⟩) (Nat.lt_succ_self _))
