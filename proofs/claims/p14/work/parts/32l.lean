set_option maxRecDepth 100000 in
set_option maxHeartbeats 4000000 in
theorem r91_L {sc : Nat → Int} {ai : Nat → Nat → Int} {al : Nat → Nat → Int64} {az : Nat → Nat → Int32} {v0 : vm_H} (hK : tmok ai) {i1 : Int} (hi_1 : 16 ≤ i1 ∧ i1 < 69) {i2 : Int} (hi_2 : -2147483648 ≤ i2 ∧ i2 < 2147483648) {i3 : Int} (hi_3 : -2147483648 ≤ i3 ∧ i3 < 2147483648) {V : Nat → Nat} {nv p e : Nat} {f b : Po} (hv : sc 1 = (nv : Int)) (hvr : vR ai = V) (hV : pmV V nv) (hG0 : tbG V nv sc ai al az []) (hL : qL V nv ai al 69 f) (hg : gk nv f) (hLb : qL V nv ai al (i1).toNat b) (hgb : gk nv b) (hp : p < nv) (hv2 : i2 = (V p : Int)) (he3 : i3 = (e : Int)) (hde : e ≤ dgP f p) : ∀ N : Nat, (∀ (vh : vm_H) (sc_ : Nat → Int) (ai_ : Nat → Nat → Int) (al_ : Nat → Nat → Int64) (az_ : Nat → Nat → Int32) (x4 : Int) (x5 : Int), (tm sc_ ai_ al_ az_ v0 vh) → (tmok ai_) → (-2147483648 ≤ x4 ∧ x4 < 2147483648) → (0 ≤ x5 ∧ x5 ≤ ai_ 242 69) → (rsA V nv f b p e sc sc_ ai ai_ al al_ az az_ x5) → (x4 = (dgP f p : Int)) → ((100000 + (60 - x5) * 1000 + 500 : Int).toNat < N) → vm_Wp 4 104 91 19 [some (.ref 238), some (.int (vz i1)), some (.int (vz i2)), some (.int (vz i3)), some (.int (vz x4)), some (.int (vz x5)), none, none, none] [] vh (vq_P 91 (fun r v1 => ∃ (sc1 : Nat → Int) (ai1 : Nat → Nat → Int) (al1 : Nat → Nat → Int64) (az1 : Nat → Nat → Int32) (q : Int), ((0 ≤ q ∧ q ≤ 1) ∧ rtO V nv f b p (dgP f p) e sc sc1 ai ai1 al al1 az az1 q) ∧ r = some (.int (vz q)) ∧ tmok ai1 ∧ tm sc1 ai1 al1 az1 v0 v1))) ∧ (∀ (vh : vm_H) (sc_ : Nat → Int) (ai_ : Nat → Nat → Int) (al_ : Nat → Nat → Int64) (az_ : Nat → Nat → Int32) (x4 : Int) (y5 : Int64) (x7 : Int), (tm sc_ ai_ al_ az_ v0 vh) → (tmok ai_) → (-2147483648 ≤ x4 ∧ x4 < 2147483648) → (0 ≤ x7 ∧ x7 ≤ ai_ 242 70) → (rsB V nv f b p (dgP f p) e sc sc_ ai ai_ al al_ az az_ x7) → (x4 = (dgP f p : Int)) → (True) → (y5 = Int64.ofNat ((dgP f p - e) * 256 ^ (V p))) → (((60 - x7) * 1000 + 500 : Int).toNat < N) → vm_Wp 4 104 91 132 [some (.ref 238), some (.int (vz i1)), some (.int (vz i2)), some (.int (vz i3)), some (.int (vz x4)), some (.long y5), none, some (.int (vz x7)), none] [] vh (vq_P 91 (fun r v1 => ∃ (sc1 : Nat → Int) (ai1 : Nat → Nat → Int) (al1 : Nat → Nat → Int64) (az1 : Nat → Nat → Int32) (q : Int), ((0 ≤ q ∧ q ≤ 1) ∧ rtO V nv f b p (dgP f p) e sc sc1 ai ai1 al al1 az az1 q) ∧ r = some (.int (vz q)) ∧ tmok ai1 ∧ tm sc1 ai1 al1 az1 v0 v1))) ∧ (∀ (vh : vm_H) (sc_ : Nat → Int) (ai_ : Nat → Nat → Int) (al_ : Nat → Nat → Int64) (az_ : Nat → Nat → Int32) (x4 : Int) (x5 : Int) (x6 : Int), (tm sc_ ai_ al_ az_ v0 vh) → (tmok ai_) → (-2147483648 ≤ x4 ∧ x4 < 2147483648) → (0 ≤ x5 ∧ x5 < ai_ 242 69) → (0 ≤ x6 ∧ x6 ≤ ai_ 242 70) → (rsA2 V nv f b p e sc sc_ ai ai_ al al_ az az_ x5 x6) → (x4 = (dgP f p : Int)) → ((100000 + (60 - x5) * 1000 + (60 - x6) : Int).toNat < N) → vm_Wp 4 104 91 34 [some (.ref 238), some (.int (vz i1)), some (.int (vz i2)), some (.int (vz i3)), some (.int (vz x4)), some (.int (vz x5)), some (.int (vz x6)), none, none] [] vh (vq_P 91 (fun r v1 => ∃ (sc1 : Nat → Int) (ai1 : Nat → Nat → Int) (al1 : Nat → Nat → Int64) (az1 : Nat → Nat → Int32) (q : Int), ((0 ≤ q ∧ q ≤ 1) ∧ rtO V nv f b p (dgP f p) e sc sc1 ai ai1 al al1 az az1 q) ∧ r = some (.int (vz q)) ∧ tmok ai1 ∧ tm sc1 ai1 al1 az1 v0 v1))) ∧ (∀ (vh : vm_H) (sc_ : Nat → Int) (ai_ : Nat → Nat → Int) (al_ : Nat → Nat → Int64) (az_ : Nat → Nat → Int32) (x4 : Int) (y5 : Int64) (x7 : Int) (x8 : Int), (tm sc_ ai_ al_ az_ v0 vh) → (tmok ai_) → (-2147483648 ≤ x4 ∧ x4 < 2147483648) → (0 ≤ x7 ∧ x7 < ai_ 242 70) → (0 ≤ x8 ∧ x8 ≤ ai_ 242 (i1).toNat) → (rsB2 V nv f b p (dgP f p) e sc sc_ ai ai_ al al_ az az_ x7 x8) → (x4 = (dgP f p : Int)) → (True) → (y5 = Int64.ofNat ((dgP f p - e) * 256 ^ (V p))) → (((60 - x7) * 1000 + (60 - x8) : Int).toNat < N) → vm_Wp 4 104 91 147 [some (.ref 238), some (.int (vz i1)), some (.int (vz i2)), some (.int (vz i3)), some (.int (vz x4)), some (.long y5), none, some (.int (vz x7)), some (.int (vz x8))] [] vh (vq_P 91 (fun r v1 => ∃ (sc1 : Nat → Int) (ai1 : Nat → Nat → Int) (al1 : Nat → Nat → Int64) (az1 : Nat → Nat → Int32) (q : Int), ((0 ≤ q ∧ q ≤ 1) ∧ rtO V nv f b p (dgP f p) e sc sc1 ai ai1 al al1 az az1 q) ∧ r = some (.int (vz q)) ∧ tmok ai1 ∧ tm sc1 ai1 al1 az1 v0 v1))) := by
  have hn8 := hV.1
  have hVp := hV.2.1 p hp
  intro N
  induction N with
  | zero => exact ⟨by intros; omega, by intros; omega, by intros; omega, by intros; omega⟩
  | succ N ih =>
    refine ⟨?_, ?_, ?_, ?_⟩
    ·
      intro vh sc_ ai_ al_ az_ x4 x5 hM hK_ hx4 hx5 hi0 hi1 hN
      have hi0b := hi0
      obtain ⟨G, hS0, hS1⟩ := hi0b
      have hQ69 := hS0.2.1
      have hQ70 := hS0.2.2.1
      have hFR := hS0.2.2.2
      have hvr_ : vR ai_ = V := (rF_vR hFR).trans hvr
      have h69 := hK_.1 69
      have h70 := hK_.1 70
      have h38 := hS0.1.1.1.2
      have h38b := hS0.1.2
      have hLb_ := rF_q hFR (by omega) hLb (hK.1 (i1).toNat).2
      have hlb := hLb_.1
      have hlbK := hK_.1 (i1).toNat
      refine w_ldI e91_19 (fun _ => rfl) rfl ?_
      refine w_ldA e91_21 (fun _ => rfl) rfl ?_
      have e16 := tm_o hM
      refine w_get e91_22 e16 rfl ?_
      refine w_kB e91_25 rfl ?_
      have e17 := tm_i hM (a := 242) (n := 72) rfl
      refine w_ald e91_27 e17 (by omega) (by omega) (by decide) ?_
      show vm_Wp _ _ _ 28 _ [.int (vz (ai_ 242 69)), .int (vz x5)] _ _
      have hk18 := hK_.1 69
      refine w_ic e91_28 (by omega) (tm_r hM 242 69) (fun (h19 : ai_ 242 69 ≤ x5) => ?_) (fun (h19 : x5 < ai_ 242 69) => ?_)
      ·
        refine w_ldA e91_108 (fun _ => rfl) rfl ?_
        refine w_kB e91_109 rfl ?_
        refine w_ldI e91_111 (fun _ => rfl) rfl ?_
        refine w_ldI e91_112 (fun _ => rfl) rfl ?_
        refine w_cv e91_114 (by decide) rfl e16 rfl (Nat.le_of_ble_eq_true rfl) (Nat.le_of_ble_eq_true rfl) (Nat.le_of_ble_eq_true rfl) (by decide) (by decide) (r87 hM hK_ (by omega) hi_2 hx4 (by omega) hQ69 (fun x hx => hg.2.2 x hx) hV hp hv2 hi1) (fun o20 v21 hq22 => ?_)
        obtain ⟨⟨al23, ai24, hl25, hK26, hM27⟩, rfl⟩ := hq22
        have hk28 := hK26.1 70
        have hk29 := hK26.1 69
        refine w_ldI e91_117 (fun _ => rfl) rfl ?_
        refine w_ldI e91_119 (fun _ => rfl) rfl ?_
        refine w_isub e91_120 ?_
        refine w_x e91_121 (fun _ => rfl) ?_
        refine w_kB e91_122 rfl ?_
        refine w_ldI e91_124 (fun _ => rfl) rfl ?_
        refine w_imul e91_125 ?_
        refine w_x e91_126 (fun _ => rfl) ?_
        refine w_stL (j := 5) (A1 := [some (.ref 238), some (.int (vz i1)), some (.int (vz i2)), some (.int (vz i3)), some (.int (vz x4)), some (.long (((((vz (x4 - i3)).toInt64)) <<< ((vz (8 * i2)).toInt64 &&& 63)))), none, none, none]) e91_127 (fun _ => rfl) (by decide) rfl ?_
        refine w_kI e91_129 ?_
        refine w_stI (j := 7) (A1 := [some (.ref 238), some (.int (vz i1)), some (.int (vz i2)), some (.int (vz i3)), some (.int (vz x4)), some (.long (((((vz (x4 - i3)).toInt64)) <<< ((vz (8 * i2)).toInt64 &&& 63)))), none, some (.int (vz 0)), none]) e91_130 (fun _ => rfl) (by decide) rfl ?_
        exact w_sub (A1 := [some (.ref 238), some (.int (vz i1)), some (.int (vz i2)), some (.int (vz i3)), some (.int (vz x4)), some (.long (((((vz (x4 - i3)).toInt64)) <<< ((vz (8 * i2)).toInt64 &&& 63)))), none, some (.int (vz 0)), none]) (And.intro rfl (And.intro rfl (And.intro rfl (And.intro rfl (And.intro rfl (And.intro rfl (And.intro rfl trivial))))))) ((ih.2.1) v21 sc_ ai24 al23 az_ x4 (((((vz (x4 - i3)).toInt64)) <<< ((vz (8 * i2)).toInt64 &&& 63))) 0 hM27 hK26 hx4 (by omega) (rsB_0 hi0 (by omega) (by omega) hl25) hi1 trivial (st_up hi1 he3 hde hv2 (by omega)) (by omega))
      ·
        refine w_kI e91_31 ?_
        refine w_stI (j := 6) (A1 := [some (.ref 238), some (.int (vz i1)), some (.int (vz i2)), some (.int (vz i3)), some (.int (vz x4)), some (.int (vz x5)), some (.int (vz 0)), none, none]) e91_32 (fun _ => rfl) (by decide) rfl ?_
        exact w_sub (A1 := [some (.ref 238), some (.int (vz i1)), some (.int (vz i2)), some (.int (vz i3)), some (.int (vz x4)), some (.int (vz x5)), some (.int (vz 0)), none, none]) (And.intro rfl (And.intro rfl (And.intro rfl (And.intro rfl (And.intro rfl (And.intro rfl (And.intro rfl trivial))))))) ((ih.2.2.1) vh sc_ ai_ al_ az_ x4 x5 0 hM hK_ hx4 (by omega) (by omega) (rsA_in hi0) hi1 (by omega))
    ·
      intro vh sc_ ai_ al_ az_ x4 y5 x7 hM hK_ hx4 hx7 hi0 hi1 hi2 hi3 hN
      have hi0b := hi0
      obtain ⟨G, hS0, hS1⟩ := hi0b
      have hQ69 := hS0.2.1
      have hQ70 := hS0.2.2.1
      have hFR := hS0.2.2.2
      have hvr_ : vR ai_ = V := (rF_vR hFR).trans hvr
      have h69 := hK_.1 69
      have h70 := hK_.1 70
      have h38 := hS0.1.1.1.2
      have h38b := hS0.1.2
      have hLb_ := rF_q hFR (by omega) hLb (hK.1 (i1).toNat).2
      have hlb := hLb_.1
      have hlbK := hK_.1 (i1).toNat
      refine w_ldI e91_132 (fun _ => rfl) rfl ?_
      refine w_ldA e91_134 (fun _ => rfl) rfl ?_
      have e30 := tm_o hM
      refine w_get e91_135 e30 rfl ?_
      refine w_kB e91_138 rfl ?_
      have e31 := tm_i hM (a := 242) (n := 72) rfl
      refine w_ald e91_140 e31 (by omega) (by omega) (by decide) ?_
      show vm_Wp _ _ _ 141 _ [.int (vz (ai_ 242 70)), .int (vz x7)] _ _
      have hk32 := hK_.1 70
      refine w_ic e91_141 (by omega) (tm_r hM 242 70) (fun (h33 : ai_ 242 70 ≤ x7) => ?_) (fun (h33 : x7 < ai_ 242 70) => ?_)
      ·
        obtain ⟨G, hGe, hce, hFr⟩ := rt_e hi0 (by omega) hg hgb hp hde
        refine w_ldA e91_226 (fun _ => rfl) rfl ?_
        refine w_kB e91_227 rfl ?_
        refine w_cv e91_229 (by decide) rfl e30 rfl (Nat.le_of_ble_eq_true rfl) (Nat.le_of_ble_eq_true rfl) (Nat.le_of_ble_eq_true rfl) (by decide) (by decide) (r90 hM hK_ (by omega) (by rw [hFr.1 1 (by decide)]; exact hv) (by rw [hvr_]; exact hV) (by rw [hvr_]; exact hGe)) (fun o34 v35 hq36 => ?_)
        obtain ⟨sc37, ai38, al39, az40, q41, ⟨hb42, ho43⟩, hf44, rfl, hK45, hM46⟩ := hq36
        exact w_rz e91_232 rfl (by omega) ⟨sc37, ai38, al39, az40, q41, ⟨by omega, rt_f hFr hce (by have h9 := ho43; rw [hvr_] at h9; exact h9) (by have h9 := hf44; rw [hvr_] at h9; exact h9)⟩, rfl, hK45, hM46⟩
      ·
        refine w_kI e91_144 ?_
        refine w_stI (j := 8) (A1 := [some (.ref 238), some (.int (vz i1)), some (.int (vz i2)), some (.int (vz i3)), some (.int (vz x4)), some (.long y5), none, some (.int (vz x7)), some (.int (vz 0))]) e91_145 (fun _ => rfl) (by decide) rfl ?_
        exact w_sub (A1 := [some (.ref 238), some (.int (vz i1)), some (.int (vz i2)), some (.int (vz i3)), some (.int (vz x4)), some (.long y5), none, some (.int (vz x7)), some (.int (vz 0))]) (And.intro rfl (And.intro rfl (And.intro rfl (And.intro rfl (And.intro rfl (And.intro rfl (And.intro rfl (And.intro rfl trivial)))))))) ((ih.2.2.2) vh sc_ ai_ al_ az_ x4 y5 x7 0 hM hK_ hx4 (by omega) (by omega) (rsB_in hi0) hi1 trivial hi3 (by omega))
    ·
      intro vh sc_ ai_ al_ az_ x4 x5 x6 hM hK_ hx4 hx5 hx6 hi0 hi1 hN
      have hi0b := hi0
      obtain ⟨G, hS0, hS1⟩ := hi0b
      have hQ69 := hS0.2.1
      have hQ70 := hS0.2.2.1
      have hFR := hS0.2.2.2
      have hvr_ : vR ai_ = V := (rF_vR hFR).trans hvr
      have h69 := hK_.1 69
      have h70 := hK_.1 70
      have h38 := hS0.1.1.1.2
      have h38b := hS0.1.2
      have hLb_ := rF_q hFR (by omega) hLb (hK.1 (i1).toNat).2
      have hlb := hLb_.1
      have hlbK := hK_.1 (i1).toNat
      refine w_ldI e91_34 (fun _ => rfl) rfl ?_
      refine w_ldA e91_36 (fun _ => rfl) rfl ?_
      have e47 := tm_o hM
      refine w_get e91_37 e47 rfl ?_
      refine w_kB e91_40 rfl ?_
      have e48 := tm_i hM (a := 242) (n := 72) rfl
      refine w_ald e91_42 e48 (by omega) (by omega) (by decide) ?_
      show vm_Wp _ _ _ 43 _ [.int (vz (ai_ 242 70)), .int (vz x6)] _ _
      have hk49 := hK_.1 70
      refine w_ic e91_43 (by omega) (tm_r hM 242 70) (fun (h50 : ai_ 242 70 ≤ x6) => ?_) (fun (h50 : x6 < ai_ 242 70) => ?_)
      ·
        refine w_iinc (A1 := [some (.ref 238), some (.int (vz i1)), some (.int (vz i2)), some (.int (vz i3)), some (.int (vz x4)), some (.int (vz (x5 + 1))), some (.int (vz x6)), none, none]) e91_102 rfl (by decide) rfl ?_
        refine w_x e91_105 (fun _ => rfl) ?_
        exact w_sub (A1 := [some (.ref 238), some (.int (vz i1)), some (.int (vz i2)), some (.int (vz i3)), some (.int (vz x4)), some (.int (vz (x5 + 1))), none, none, none]) (And.intro rfl (And.intro rfl (And.intro rfl (And.intro rfl (And.intro rfl (And.intro rfl trivial)))))) ((ih.1) vh sc_ ai_ al_ az_ x4 (x5 + 1) hM hK_ hx4 (by omega) (rsA_out hi0 (by omega) (by omega) (by omega)) hi1 (by omega))
      ·
        obtain ⟨xx, qx1, qx2, qx3, qx4⟩ := qx hQ69 (x := x5) (by omega)
        obtain ⟨yy, qy1, qy2, qy3, qy4⟩ := qx hQ70 (x := x6) (by omega)
        have hxd := gk_dg hg qx4
        have hyd := ldL_dg hgb hp hn8 qy4
        have hka := kadd (V := V) hxd.1 hyd.1.1 (fun q hq => hxd.2 q (by omega)) hyd.1.2
        refine w_ldA e91_46 (fun _ => rfl) rfl ?_
        refine w_ldA e91_47 (fun _ => rfl) rfl ?_
        refine w_get e91_48 e47 rfl ?_
        refine w_kS e91_51 rfl ?_
        refine w_ldI e91_54 (fun _ => rfl) rfl ?_
        refine w_iadd e91_56 ?_
        have e51 := tm_l hM (a := 243) (n := 4320) rfl
        refine w_lld e91_57 e51 (by omega) (by omega) (by decide) ?_
        refine w_ldA e91_58 (fun _ => rfl) rfl ?_
        refine w_get e91_59 e47 rfl ?_
        refine w_kS e91_62 rfl ?_
        refine w_ldI e91_65 (fun _ => rfl) rfl ?_
        refine w_iadd e91_67 ?_
        refine w_lld e91_68 e51 (by omega) (by omega) (by decide) ?_
        refine w_x e91_69 (fun _ => rfl) ?_
        refine w_ldA e91_70 (fun _ => rfl) rfl ?_
        refine w_get e91_71 e47 rfl ?_
        refine w_kS e91_74 rfl ?_
        refine w_ldI e91_77 (fun _ => rfl) rfl ?_
        refine w_iadd e91_79 ?_
        have e52 := tm_l hM (a := 244) (n := 4320) rfl
        refine w_lld e91_80 e52 (by omega) (by omega) (by decide) ?_
        refine w_ldA e91_81 (fun _ => rfl) rfl ?_
        refine w_get e91_82 e47 rfl ?_
        refine w_kS e91_85 rfl ?_
        refine w_ldI e91_88 (fun _ => rfl) rfl ?_
        refine w_iadd e91_90 ?_
        refine w_lld e91_91 e52 (by omega) (by omega) (by decide) ?_
        refine w_x e91_92 (fun _ => rfl) ?_
        have hkk : (((al_ 244 (4140 + x5).toNat)) + ((al_ 244 (4200 + x6).toNat))) = Int64.ofNat (tr V nv (xx.1 + yy.1)) := by rw [st_i69 hx5.1, st_i70 hx6.1, qx2, qy2, hka.2, Int64.ofNat_add]
        have hcc : (((al_ 243 (4140 + x5).toNat)) * ((al_ 243 (4200 + x6).toNat))) = xx.2 * yy.2 := by rw [st_i69 hx5.1, st_i70 hx6.1, qx3, qy3]
        refine w_cv e91_93 (by decide) rfl e47 rfl (Nat.le_of_ble_eq_true rfl) (Nat.le_of_ble_eq_true rfl) (Nat.le_of_ble_eq_true rfl) (by decide) (by decide) (r88 hM hK_ hS0.1.1 hV (by omega) hkk hka.1) (fun o53 v54 hq55 => ?_)
        obtain ⟨⟨sc56, ai57, al58, az59, ho60, hK61, hM62⟩, rfl⟩ := hq55
        have hg63 := congrFun (ho60.2.2.1 242 (by decide)) 69
        have hg64 := congrFun (ho60.2.2.1 242 (by decide)) 70
        have hg65 := congrFun (ho60.2.2.1 242 (by decide)) (i1).toNat
        refine w_iinc (A1 := [some (.ref 238), some (.int (vz i1)), some (.int (vz i2)), some (.int (vz i3)), some (.int (vz x4)), some (.int (vz x5)), some (.int (vz (x6 + 1))), none, none]) e91_96 rfl (by decide) rfl ?_
        refine w_x e91_99 (fun _ => rfl) ?_
        exact w_sub (A1 := [some (.ref 238), some (.int (vz i1)), some (.int (vz i2)), some (.int (vz i3)), some (.int (vz x4)), some (.int (vz x5)), some (.int (vz (x6 + 1))), none, none]) (And.intro rfl (And.intro rfl (And.intro rfl (And.intro rfl (And.intro rfl (And.intro rfl (And.intro rfl trivial))))))) ((ih.2.2.1) v54 sc56 ai57 al58 az59 x4 x5 (x6 + 1) hM62 hK61 hx4 (by omega) (by omega) (rsA_s hS0 hS1 qx1 qy1 hcc ho60) hi1 (by omega))
    ·
      intro vh sc_ ai_ al_ az_ x4 y5 x7 x8 hM hK_ hx4 hx7 hx8 hi0 hi1 hi2 hi3 hN
      have hi0b := hi0
      obtain ⟨G, hS0, hS1⟩ := hi0b
      have hQ69 := hS0.2.1
      have hQ70 := hS0.2.2.1
      have hFR := hS0.2.2.2
      have hvr_ : vR ai_ = V := (rF_vR hFR).trans hvr
      have h69 := hK_.1 69
      have h70 := hK_.1 70
      have h38 := hS0.1.1.1.2
      have h38b := hS0.1.2
      have hLb_ := rF_q hFR (by omega) hLb (hK.1 (i1).toNat).2
      have hlb := hLb_.1
      have hlbK := hK_.1 (i1).toNat
      refine w_ldI e91_147 (fun _ => rfl) rfl ?_
      refine w_ldA e91_149 (fun _ => rfl) rfl ?_
      have e66 := tm_o hM
      refine w_get e91_150 e66 rfl ?_
      refine w_ldI e91_153 (fun _ => rfl) rfl ?_
      have e67 := tm_i hM (a := 242) (n := 72) rfl
      refine w_ald e91_154 e67 (by omega) (by omega) (by decide) ?_
      show vm_Wp _ _ _ 155 _ [.int (vz (ai_ 242 (i1).toNat)), .int (vz x8)] _ _
      have hk68 := hK_.1 (i1).toNat
      refine w_ic e91_155 (by omega) (tm_r hM 242 (i1).toNat) (fun (h69 : ai_ 242 (i1).toNat ≤ x8) => ?_) (fun (h69 : x8 < ai_ 242 (i1).toNat) => ?_)
      ·
        refine w_iinc (A1 := [some (.ref 238), some (.int (vz i1)), some (.int (vz i2)), some (.int (vz i3)), some (.int (vz x4)), some (.long y5), none, some (.int (vz (x7 + 1))), some (.int (vz x8))]) e91_220 rfl (by decide) rfl ?_
        refine w_x e91_223 (fun _ => rfl) ?_
        exact w_sub (A1 := [some (.ref 238), some (.int (vz i1)), some (.int (vz i2)), some (.int (vz i3)), some (.int (vz x4)), some (.long y5), none, some (.int (vz (x7 + 1))), none]) (And.intro rfl (And.intro rfl (And.intro rfl (And.intro rfl (And.intro rfl (And.intro rfl (And.intro rfl trivial))))))) ((ih.2.1) vh sc_ ai_ al_ az_ x4 y5 (x7 + 1) hM hK_ hx4 (by omega) (rsB_out hi0 (by omega) (by omega) (by omega)) hi1 trivial hi3 (by omega))
      ·
        obtain ⟨xx, qx1, qx2, qx3, qx4⟩ := qx hQ70 (x := x7) (by omega)
        obtain ⟨yy, qy1, qy2, qy3, qy4⟩ := qx hLb_ (x := x8) (by omega)
        have hxd := ldL_dg hg hp hn8 qx4
        have hyd := gk_dg hgb qy4
        have hd15 := dgP_15 hg (p := p) (by omega)
        have hku := kup (d := dgP f p - e) hV hxd.1.1 hxd.1.2 hxd.2 hp (by omega)
        have hka := kadd (V := V) hku.1.1 hyd.1 hku.1.2 (fun q hq => hyd.2 q (by omega))
        refine w_ldA e91_158 (fun _ => rfl) rfl ?_
        refine w_ldA e91_159 (fun _ => rfl) rfl ?_
        refine w_get e91_160 e66 rfl ?_
        refine w_kS e91_163 rfl ?_
        refine w_ldI e91_166 (fun _ => rfl) rfl ?_
        refine w_iadd e91_168 ?_
        have e70 := tm_l hM (a := 243) (n := 4320) rfl
        refine w_lld e91_169 e70 (by omega) (by omega) (by decide) ?_
        refine w_x e91_170 (fun _ => rfl) ?_
        refine w_ldA e91_171 (fun _ => rfl) rfl ?_
        refine w_get e91_172 e66 rfl ?_
        refine w_kB e91_175 rfl ?_
        refine w_ldI e91_177 (fun _ => rfl) rfl ?_
        refine w_imul e91_178 ?_
        refine w_ldI e91_179 (fun _ => rfl) rfl ?_
        refine w_iadd e91_181 ?_
        refine w_lld e91_182 e70 (by omega) (by omega) (by decide) ?_
        refine w_x e91_183 (fun _ => rfl) ?_
        refine w_ldA e91_184 (fun _ => rfl) rfl ?_
        refine w_get e91_185 e66 rfl ?_
        refine w_kS e91_188 rfl ?_
        refine w_ldI e91_191 (fun _ => rfl) rfl ?_
        refine w_iadd e91_193 ?_
        have e71 := tm_l hM (a := 244) (n := 4320) rfl
        refine w_lld e91_194 e71 (by omega) (by omega) (by decide) ?_
        refine w_ldL e91_195 (fun _ => rfl) rfl ?_
        refine w_x e91_197 (fun _ => rfl) ?_
        refine w_ldA e91_198 (fun _ => rfl) rfl ?_
        refine w_get e91_199 e66 rfl ?_
        refine w_kB e91_202 rfl ?_
        refine w_ldI e91_204 (fun _ => rfl) rfl ?_
        refine w_imul e91_205 ?_
        refine w_ldI e91_206 (fun _ => rfl) rfl ?_
        refine w_iadd e91_208 ?_
        refine w_lld e91_209 e71 (by omega) (by omega) (by decide) ?_
        refine w_x e91_210 (fun _ => rfl) ?_
        have hkk : (((((al_ 244 (4200 + x7).toNat)) + y5)) + ((al_ 244 ((60 * i1) + x8).toNat))) = Int64.ofNat (tr V nv (xx.1 + (dgP f p - e) * 256 ^ p + yy.1)) := by rw [st_i70 hx7.1, so_x (by omega) hx8.1, qx2, qy2, hi3, hka.2, hku.2, Int64.ofNat_add, Int64.ofNat_add]
        have hcc : (((-((al_ 243 (4200 + x7).toNat)))) * ((al_ 243 ((60 * i1) + x8).toNat))) = -xx.2 * yy.2 := by rw [st_i70 hx7.1, so_x (by omega) hx8.1, qx3, qy3]
        refine w_cv e91_211 (by decide) rfl e66 rfl (Nat.le_of_ble_eq_true rfl) (Nat.le_of_ble_eq_true rfl) (Nat.le_of_ble_eq_true rfl) (by decide) (by decide) (r88 hM hK_ hS0.1.1 hV (by omega) hkk hka.1) (fun o72 v73 hq74 => ?_)
        obtain ⟨⟨sc75, ai76, al77, az78, ho79, hK80, hM81⟩, rfl⟩ := hq74
        have hg82 := congrFun (ho79.2.2.1 242 (by decide)) 69
        have hg83 := congrFun (ho79.2.2.1 242 (by decide)) 70
        have hg84 := congrFun (ho79.2.2.1 242 (by decide)) (i1).toNat
        refine w_iinc (A1 := [some (.ref 238), some (.int (vz i1)), some (.int (vz i2)), some (.int (vz i3)), some (.int (vz x4)), some (.long y5), none, some (.int (vz x7)), some (.int (vz (x8 + 1)))]) e91_214 rfl (by decide) rfl ?_
        refine w_x e91_217 (fun _ => rfl) ?_
        exact w_sub (A1 := [some (.ref 238), some (.int (vz i1)), some (.int (vz i2)), some (.int (vz i3)), some (.int (vz x4)), some (.long y5), none, some (.int (vz x7)), some (.int (vz (x8 + 1)))]) (And.intro rfl (And.intro rfl (And.intro rfl (And.intro rfl (And.intro rfl (And.intro rfl (And.intro rfl (And.intro rfl trivial)))))))) ((ih.2.2.2) v73 sc75 ai76 al77 az78 x4 y5 x7 (x8 + 1) hM81 hK80 hx4 (by omega) (by omega) (rsB_s hS0 hS1 qx1 qy1 hcc ho79) hi1 trivial hi3 (by omega))
set_option maxRecDepth 100000 in
set_option maxHeartbeats 4000000 in
theorem r91 {sc : Nat → Int} {ai : Nat → Nat → Int} {al : Nat → Nat → Int64} {az : Nat → Nat → Int32} {v0 vh : vm_H} (hM : tm sc ai al az v0 vh) (hK : tmok ai) {i1 : Int} (hi_1 : 16 ≤ i1 ∧ i1 < 69) {i2 : Int} (hi_2 : -2147483648 ≤ i2 ∧ i2 < 2147483648) {i3 : Int} (hi_3 : -2147483648 ≤ i3 ∧ i3 < 2147483648) {V : Nat → Nat} {nv p e : Nat} {f b : Po} (hv : sc 1 = (nv : Int)) (hvr : vR ai = V) (hV : pmV V nv) (hG0 : tbG V nv sc ai al az []) (hL : qL V nv ai al 69 f) (hg : gk nv f) (hLb : qL V nv ai al (i1).toNat b) (hgb : gk nv b) (hp : p < nv) (hv2 : i2 = (V p : Int)) (he3 : i3 = (e : Int)) (hde : e ≤ dgP f p) : vm_Rp 4 104 91 [.ref 238, .int (vz i1), .int (vz i2), .int (vz i3)] vh (fun r v1 => ∃ (sc1 : Nat → Int) (ai1 : Nat → Nat → Int) (al1 : Nat → Nat → Int64) (az1 : Nat → Nat → Int32) (q : Int), ((0 ≤ q ∧ q ≤ 1) ∧ rtO V nv f b p (dgP f p) e sc sc1 ai ai1 al al1 az az1 q) ∧ r = some (.int (vz q)) ∧ tmok ai1 ∧ tm sc1 ai1 al1 az1 v0 v1) := by
  have hn8 := hV.1
  have hVp := hV.2.1 p hp
  refine w_in (m := 5) ?_
  show vm_Wp _ _ _ 0 [some (.ref 238), some (.int (vz i1)), some (.int (vz i2)), some (.int (vz i3)), none, none, none, none, none] [] _ _
  refine w_ldA e91_0 (fun _ => rfl) rfl ?_
  refine w_kB e91_1 rfl ?_
  refine w_ldI e91_3 (fun _ => rfl) rfl ?_
  have e1 := tm_o hM
  refine w_cv e91_4 (by decide) rfl e1 rfl (Nat.le_of_ble_eq_true rfl) (Nat.le_of_ble_eq_true rfl) (Nat.le_of_ble_eq_true rfl) (by decide) (by decide) (c85 hM hK (by omega) hi_2) (fun o2 v3 hq4 => ?_)
  obtain ⟨rfl, rfl⟩ := hq4
  have hp5 := dgf_bd (al 244) (60 * ((69 : Int))).toNat i2 (ai 242 ((69 : Int)).toNat).toNat
  show vm_Wp _ _ _ 7 _ [.int (vz (dgf (al 244) (60 * ((69 : Int))).toNat i2 (ai 242 ((69 : Int)).toNat).toNat))] _ _
  refine w_stI (j := 4) (A1 := [some (.ref 238), some (.int (vz i1)), some (.int (vz i2)), some (.int (vz i3)), some (.int (vz (dgf (al 244) (60 * ((69 : Int))).toNat i2 (ai 242 ((69 : Int)).toNat).toNat))), none, none, none, none]) e91_7 (fun _ => rfl) (by decide) rfl ?_
  refine w_ldA e91_9 (fun _ => rfl) rfl ?_
  refine w_ldI e91_10 (fun _ => rfl) rfl ?_
  refine w_ldI e91_11 (fun _ => rfl) rfl ?_
  refine w_ldI e91_12 (fun _ => rfl) rfl ?_
  refine w_cv e91_13 (by decide) rfl e1 rfl (Nat.le_of_ble_eq_true rfl) (Nat.le_of_ble_eq_true rfl) (Nat.le_of_ble_eq_true rfl) (by decide) (by decide) (r87 hM hK (by omega) hi_2 hi_3 (by omega) hLb (fun x hx => hgb.2.2 x hx) hV hp hv2 he3) (fun o6 v7 hq8 => ?_)
  obtain ⟨⟨al9, ai10, hl11, hK12, hM13⟩, rfl⟩ := hq8
  have hk14 := hK12.1 70
  have hk15 := hK12.1 69
  refine w_kI e91_16 ?_
  refine w_stI (j := 5) (A1 := [some (.ref 238), some (.int (vz i1)), some (.int (vz i2)), some (.int (vz i3)), some (.int (vz (dgf (al 244) (60 * ((69 : Int))).toNat i2 (ai 242 ((69 : Int)).toNat).toNat))), some (.int (vz 0)), none, none, none]) e91_17 (fun _ => rfl) (by decide) rfl ?_
  exact w_sub (A1 := [some (.ref 238), some (.int (vz i1)), some (.int (vz i2)), some (.int (vz i3)), some (.int (vz (dgf (al 244) (60 * ((69 : Int))).toNat i2 (ai 242 ((69 : Int)).toNat).toNat))), some (.int (vz 0)), none, none, none]) (And.intro rfl (And.intro rfl (And.intro rfl (And.intro rfl (And.intro rfl (And.intro rfl trivial)))))) (((r91_L (sc := sc) (ai := ai) (al := al) (az := az) (v0 := v0) (i1 := i1) (i2 := i2) (i3 := i3) (V := V) (nv := nv) (p := p) (e := e) (f := f) (b := b) hK hi_1 hi_2 hi_3 hv hvr hV hG0 hL hg hLb hgb hp hv2 he3 hde _).1) v7 sc ai10 al9 az (dgf (al 244) (60 * ((69 : Int))).toNat i2 (ai 242 ((69 : Int)).toNat).toNat) 0 hM13 hK12 (by omega) (by omega) (rsA_0 hG0 hl11 hL (hK.1 69).2) (qL_dg hL hV hp hv2 rfl) (Nat.lt_succ_self _))
