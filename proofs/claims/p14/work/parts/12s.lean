set_option maxRecDepth 100000 in
set_option maxHeartbeats 4000000 in
theorem c91_L {sc : Nat → Int} {ai : Nat → Nat → Int} {al : Nat → Nat → Int64} {az : Nat → Nat → Int32} {v0 : vm_H} (hK0 : tmok ai) (hI : gi sc ai al az) {i1 : Int} (hi_1 : 16 ≤ i1 ∧ i1 < 67) {i2 : Int} (hi_2 : -2147483648 ≤ i2 ∧ i2 < 2147483648) {i3 : Int} (hi_3 : -2147483648 ≤ i3 ∧ i3 < 2147483648) : ∀ N : Nat, (∀ (vh : vm_H) (sc_ : Nat → Int) (ai_ : Nat → Nat → Int) (al_ : Nat → Nat → Int64) (az_ : Nat → Nat → Int32) (x4 : Int) (x5 : Int), (tm sc_ ai_ al_ az_ v0 vh) → (tmok ai_) → (gj sc_ ai_ al_ az_) → (fr [38] [257, 258, 259, 260] 69 70 sc ai al az sc_ ai_ al_ az_) → (-2147483648 ≤ x4 ∧ x4 < 2147483648) → (0 ≤ x5 ∧ x5 ≤ 60) → (tb sc_ ai_ az_) → (0 ≤ sc_ 38 ∧ sc_ 38 ≤ 60 * x5) → ((100000 + (60 - x5) * 1000 + 500 : Int).toNat < N) → vm_Wp 4 104 91 19 [some (.ref 238), some (.int (vz i1)), some (.int (vz i2)), some (.int (vz i3)), some (.int (vz x4)), some (.int (vz x5)), none, none, none] [] vh (vq_P 91 (fun r v1 => (∃ (sc1 : Nat → Int) (ai1 : Nat → Nat → Int) (al1 : Nat → Nat → Int64) (az1 : Nat → Nat → Int32), tm sc1 ai1 al1 az1 v0 v1 ∧ tmok ai1 ∧ gi sc1 ai1 al1 az1 ∧ fr [38] [257, 258, 259, 260] 69 70 sc ai al az sc1 ai1 al1 az1 ∧ (True)) ∧ ∃ q : Int, ((0 ≤ q ∧ q ≤ 1)) ∧ r = some (.int (vz q))))) ∧ (∀ (vh : vm_H) (sc_ : Nat → Int) (ai_ : Nat → Nat → Int) (al_ : Nat → Nat → Int64) (az_ : Nat → Nat → Int32) (x4 : Int) (y5 : Int64) (x7 : Int), (tm sc_ ai_ al_ az_ v0 vh) → (tmok ai_) → (gj sc_ ai_ al_ az_) → (fr [38] [257, 258, 259, 260] 69 70 sc ai al az sc_ ai_ al_ az_) → (-2147483648 ≤ x4 ∧ x4 < 2147483648) → (0 ≤ x7 ∧ x7 ≤ 60) → (tb sc_ ai_ az_) → (0 ≤ sc_ 38 ∧ sc_ 38 ≤ 3600 + 60 * x7) → (((60 - x7) * 1000 + 500 : Int).toNat < N) → vm_Wp 4 104 91 132 [some (.ref 238), some (.int (vz i1)), some (.int (vz i2)), some (.int (vz i3)), some (.int (vz x4)), some (.long y5), none, some (.int (vz x7)), none] [] vh (vq_P 91 (fun r v1 => (∃ (sc1 : Nat → Int) (ai1 : Nat → Nat → Int) (al1 : Nat → Nat → Int64) (az1 : Nat → Nat → Int32), tm sc1 ai1 al1 az1 v0 v1 ∧ tmok ai1 ∧ gi sc1 ai1 al1 az1 ∧ fr [38] [257, 258, 259, 260] 69 70 sc ai al az sc1 ai1 al1 az1 ∧ (True)) ∧ ∃ q : Int, ((0 ≤ q ∧ q ≤ 1)) ∧ r = some (.int (vz q))))) ∧ (∀ (vh : vm_H) (sc_ : Nat → Int) (ai_ : Nat → Nat → Int) (al_ : Nat → Nat → Int64) (az_ : Nat → Nat → Int32) (x4 : Int) (x5 : Int) (x6 : Int), (tm sc_ ai_ al_ az_ v0 vh) → (tmok ai_) → (gj sc_ ai_ al_ az_) → (fr [38] [257, 258, 259, 260] 69 70 sc ai al az sc_ ai_ al_ az_) → (-2147483648 ≤ x4 ∧ x4 < 2147483648) → (0 ≤ x5 ∧ x5 < 60) → (0 ≤ x6 ∧ x6 ≤ 60) → (tb sc_ ai_ az_) → (0 ≤ sc_ 38 ∧ sc_ 38 ≤ 60 * x5 + x6) → ((100000 + (60 - x5) * 1000 + (60 - x6) : Int).toNat < N) → vm_Wp 4 104 91 34 [some (.ref 238), some (.int (vz i1)), some (.int (vz i2)), some (.int (vz i3)), some (.int (vz x4)), some (.int (vz x5)), some (.int (vz x6)), none, none] [] vh (vq_P 91 (fun r v1 => (∃ (sc1 : Nat → Int) (ai1 : Nat → Nat → Int) (al1 : Nat → Nat → Int64) (az1 : Nat → Nat → Int32), tm sc1 ai1 al1 az1 v0 v1 ∧ tmok ai1 ∧ gi sc1 ai1 al1 az1 ∧ fr [38] [257, 258, 259, 260] 69 70 sc ai al az sc1 ai1 al1 az1 ∧ (True)) ∧ ∃ q : Int, ((0 ≤ q ∧ q ≤ 1)) ∧ r = some (.int (vz q))))) ∧ (∀ (vh : vm_H) (sc_ : Nat → Int) (ai_ : Nat → Nat → Int) (al_ : Nat → Nat → Int64) (az_ : Nat → Nat → Int32) (x4 : Int) (y5 : Int64) (x7 : Int) (x8 : Int), (tm sc_ ai_ al_ az_ v0 vh) → (tmok ai_) → (gj sc_ ai_ al_ az_) → (fr [38] [257, 258, 259, 260] 69 70 sc ai al az sc_ ai_ al_ az_) → (-2147483648 ≤ x4 ∧ x4 < 2147483648) → (0 ≤ x7 ∧ x7 < 60) → (0 ≤ x8 ∧ x8 ≤ 60) → (tb sc_ ai_ az_) → (0 ≤ sc_ 38 ∧ sc_ 38 ≤ 3600 + 60 * x7 + x8) → (((60 - x7) * 1000 + (60 - x8) : Int).toNat < N) → vm_Wp 4 104 91 147 [some (.ref 238), some (.int (vz i1)), some (.int (vz i2)), some (.int (vz i3)), some (.int (vz x4)), some (.long y5), none, some (.int (vz x7)), some (.int (vz x8))] [] vh (vq_P 91 (fun r v1 => (∃ (sc1 : Nat → Int) (ai1 : Nat → Nat → Int) (al1 : Nat → Nat → Int64) (az1 : Nat → Nat → Int32), tm sc1 ai1 al1 az1 v0 v1 ∧ tmok ai1 ∧ gi sc1 ai1 al1 az1 ∧ fr [38] [257, 258, 259, 260] 69 70 sc ai al az sc1 ai1 al1 az1 ∧ (True)) ∧ ∃ q : Int, ((0 ≤ q ∧ q ≤ 1)) ∧ r = some (.int (vz q))))) := by
  have hF0 : fr [38] [257, 258, 259, 260] 69 70 sc ai al az sc ai al az := fr_0 _ _ _ _ _ _ _ _
  intro N
  induction N with
  | zero => exact ⟨by intros; omega, by intros; omega, by intros; omega, by intros; omega⟩
  | succ N ih =>
    refine ⟨?_, ?_, ?_, ?_⟩
    ·
      intro vh sc_ ai_ al_ az_ x4 x5 hM hK hJ hF hx4 hx5 hi0 hi1 hN
      refine w_ldI e91_19 (fun _ => rfl) rfl ?_
      refine w_ldA e91_21 (fun _ => rfl) rfl ?_
      have e21 := tm_o hM
      refine w_get e91_22 e21 rfl ?_
      refine w_kB e91_25 rfl ?_
      have e22 := tm_i hM (a := 242) (n := 72) rfl
      refine w_ald e91_27 e22 (by omega) (by omega) (by decide) ?_
      show vm_Wp _ _ _ 28 _ [.int (vz (ai_ 242 (69 : Int).toNat)), .int (vz x5)] _ _
      have hk23 := hK.1 (69 : Int).toNat
      refine w_ic e91_28 (by omega) (tm_r hM 242 (69 : Int).toNat) (fun (h24 : ai_ 242 (69 : Int).toNat ≤ x5) => ?_) (fun (h24 : x5 < ai_ 242 (69 : Int).toNat) => ?_)
      ·
        refine w_ldA e91_108 (fun _ => rfl) rfl ?_
        refine w_kB e91_109 rfl ?_
        refine w_ldI e91_111 (fun _ => rfl) rfl ?_
        refine w_ldI e91_112 (fun _ => rfl) rfl ?_
        refine w_cv e91_114 (by decide) rfl e21 rfl (Nat.le_of_ble_eq_true rfl) (Nat.le_of_ble_eq_true rfl) (Nat.le_of_ble_eq_true rfl) (by decide) (by decide) (k87j hM hK hJ (by omega) hi_2 hx4 (by omega)) (fun o25 v26 hq27 => ?_)
        obtain ⟨⟨sc28, ai29, al30, az31, hM32, hK33, hI34, hG35, hE36⟩, rfl⟩ := hq27
        have hs37 : sc28 38 = sc_ 38 := hG35.1 38 rfl
        have hF38 : fr [38] [257, 258, 259, 260] 69 70 sc ai al az sc28 ai29 al30 az31 := fr_t hF hG35 rfl rfl (by omega)
        have hB39 := tb_fr hi0 hG35 rfl rfl rfl
        refine w_ldI e91_117 (fun _ => rfl) rfl ?_
        refine w_ldI e91_119 (fun _ => rfl) rfl ?_
        refine w_isub e91_120 ?_
        refine w_oL e91_121 (fun _ => rfl) (fun l40 => ?_)
        refine w_kB e91_122 rfl ?_
        refine w_ldI e91_124 (fun _ => rfl) rfl ?_
        refine w_imul e91_125 ?_
        refine w_oL e91_126 (fun _ => rfl) (fun l41 => ?_)
        refine w_stL (j := 5) (A1 := [some (.ref 238), some (.int (vz i1)), some (.int (vz i2)), some (.int (vz i3)), some (.int (vz x4)), some (.long l41), none, none, none]) e91_127 (fun _ => rfl) (by decide) rfl ?_
        refine w_kI e91_129 ?_
        refine w_stI (j := 7) (A1 := [some (.ref 238), some (.int (vz i1)), some (.int (vz i2)), some (.int (vz i3)), some (.int (vz x4)), some (.long l41), none, some (.int (vz 0)), none]) e91_130 (fun _ => rfl) (by decide) rfl ?_
        exact w_sub (A1 := [some (.ref 238), some (.int (vz i1)), some (.int (vz i2)), some (.int (vz i3)), some (.int (vz x4)), some (.long l41), none, some (.int (vz 0)), none]) (And.intro rfl (And.intro rfl (And.intro rfl (And.intro rfl (And.intro rfl (And.intro rfl (And.intro rfl trivial))))))) ((ih.2.1) v26 sc28 ai29 al30 az31 x4 l41 0 hM32 hK33 hI34 hF38 hx4 (by omega) hB39 (by omega) (by omega))
      ·
        refine w_kI e91_31 ?_
        refine w_stI (j := 6) (A1 := [some (.ref 238), some (.int (vz i1)), some (.int (vz i2)), some (.int (vz i3)), some (.int (vz x4)), some (.int (vz x5)), some (.int (vz 0)), none, none]) e91_32 (fun _ => rfl) (by decide) rfl ?_
        exact w_sub (A1 := [some (.ref 238), some (.int (vz i1)), some (.int (vz i2)), some (.int (vz i3)), some (.int (vz x4)), some (.int (vz x5)), some (.int (vz 0)), none, none]) (And.intro rfl (And.intro rfl (And.intro rfl (And.intro rfl (And.intro rfl (And.intro rfl (And.intro rfl trivial))))))) ((ih.2.2.1) vh sc_ ai_ al_ az_ x4 x5 0 hM hK hJ hF hx4 (by omega) (by omega) hi0 (by omega) (by omega))
    ·
      intro vh sc_ ai_ al_ az_ x4 y5 x7 hM hK hJ hF hx4 hx7 hi0 hi1 hN
      refine w_ldI e91_132 (fun _ => rfl) rfl ?_
      refine w_ldA e91_134 (fun _ => rfl) rfl ?_
      have e42 := tm_o hM
      refine w_get e91_135 e42 rfl ?_
      refine w_kB e91_138 rfl ?_
      have e43 := tm_i hM (a := 242) (n := 72) rfl
      refine w_ald e91_140 e43 (by omega) (by omega) (by decide) ?_
      show vm_Wp _ _ _ 141 _ [.int (vz (ai_ 242 (70 : Int).toNat)), .int (vz x7)] _ _
      have hk44 := hK.1 (70 : Int).toNat
      refine w_ic e91_141 (by omega) (tm_r hM 242 (70 : Int).toNat) (fun (h45 : ai_ 242 (70 : Int).toNat ≤ x7) => ?_) (fun (h45 : x7 < ai_ 242 (70 : Int).toNat) => ?_)
      ·
        refine w_ldA e91_226 (fun _ => rfl) rfl ?_
        refine w_kB e91_227 rfl ?_
        refine w_cv e91_229 (by decide) rfl e42 rfl (Nat.le_of_ble_eq_true rfl) (Nat.le_of_ble_eq_true rfl) (Nat.le_of_ble_eq_true rfl) (by decide) (by decide) (c90 hM hK hJ (by omega) hi0) (fun o46 v47 hq48 => ?_)
        obtain ⟨⟨sc49, ai50, al51, az52, hM53, hK54, hI55, hG56, hE57⟩, q58, h59, rfl⟩ := hq48
        have hF60 : fr [38] [257, 258, 259, 260] 69 70 sc ai al az sc49 ai50 al51 az52 := fr_t hF hG56 rfl rfl (by omega)
        exact w_rz e91_232 rfl (by omega) ⟨⟨sc49, ai50, al51, az52, hM53, hK54, hI55, hF60, trivial⟩, q58, (by omega), rfl⟩
      ·
        refine w_kI e91_144 ?_
        refine w_stI (j := 8) (A1 := [some (.ref 238), some (.int (vz i1)), some (.int (vz i2)), some (.int (vz i3)), some (.int (vz x4)), some (.long y5), none, some (.int (vz x7)), some (.int (vz 0))]) e91_145 (fun _ => rfl) (by decide) rfl ?_
        exact w_sub (A1 := [some (.ref 238), some (.int (vz i1)), some (.int (vz i2)), some (.int (vz i3)), some (.int (vz x4)), some (.long y5), none, some (.int (vz x7)), some (.int (vz 0))]) (And.intro rfl (And.intro rfl (And.intro rfl (And.intro rfl (And.intro rfl (And.intro rfl (And.intro rfl (And.intro rfl trivial)))))))) ((ih.2.2.2) vh sc_ ai_ al_ az_ x4 y5 x7 0 hM hK hJ hF hx4 (by omega) (by omega) hi0 (by omega) (by omega))
    ·
      intro vh sc_ ai_ al_ az_ x4 x5 x6 hM hK hJ hF hx4 hx5 hx6 hi0 hi1 hN
      refine w_ldI e91_34 (fun _ => rfl) rfl ?_
      refine w_ldA e91_36 (fun _ => rfl) rfl ?_
      have e61 := tm_o hM
      refine w_get e91_37 e61 rfl ?_
      refine w_kB e91_40 rfl ?_
      have e62 := tm_i hM (a := 242) (n := 72) rfl
      refine w_ald e91_42 e62 (by omega) (by omega) (by decide) ?_
      show vm_Wp _ _ _ 43 _ [.int (vz (ai_ 242 (70 : Int).toNat)), .int (vz x6)] _ _
      have hk63 := hK.1 (70 : Int).toNat
      refine w_ic e91_43 (by omega) (tm_r hM 242 (70 : Int).toNat) (fun (h64 : ai_ 242 (70 : Int).toNat ≤ x6) => ?_) (fun (h64 : x6 < ai_ 242 (70 : Int).toNat) => ?_)
      ·
        refine w_iinc (A1 := [some (.ref 238), some (.int (vz i1)), some (.int (vz i2)), some (.int (vz i3)), some (.int (vz x4)), some (.int (vz (x5 + 1))), some (.int (vz x6)), none, none]) e91_102 rfl (by decide) rfl ?_
        refine w_x e91_105 (fun _ => rfl) ?_
        exact w_sub (A1 := [some (.ref 238), some (.int (vz i1)), some (.int (vz i2)), some (.int (vz i3)), some (.int (vz x4)), some (.int (vz (x5 + 1))), none, none, none]) (And.intro rfl (And.intro rfl (And.intro rfl (And.intro rfl (And.intro rfl (And.intro rfl trivial)))))) ((ih.1) vh sc_ ai_ al_ az_ x4 (x5 + 1) hM hK hJ hF hx4 (by omega) hi0 (by omega) (by omega))
      ·
        refine w_ldA e91_46 (fun _ => rfl) rfl ?_
        refine w_ldA e91_47 (fun _ => rfl) rfl ?_
        refine w_get e91_48 e61 rfl ?_
        refine w_kS e91_51 rfl ?_
        refine w_ldI e91_54 (fun _ => rfl) rfl ?_
        refine w_iadd e91_56 ?_
        have e65 := tm_l hM (a := 243) (n := 4320) rfl
        refine w_lldO e91_57 e65 (by omega) (by omega) (by decide) (fun l66 => ?_)
        refine w_ldA e91_58 (fun _ => rfl) rfl ?_
        refine w_get e91_59 e61 rfl ?_
        refine w_kS e91_62 rfl ?_
        refine w_ldI e91_65 (fun _ => rfl) rfl ?_
        refine w_iadd e91_67 ?_
        refine w_lldO e91_68 e65 (by omega) (by omega) (by decide) (fun l67 => ?_)
        refine w_oL e91_69 (fun _ => rfl) (fun l68 => ?_)
        refine w_ldA e91_70 (fun _ => rfl) rfl ?_
        refine w_get e91_71 e61 rfl ?_
        refine w_kS e91_74 rfl ?_
        refine w_ldI e91_77 (fun _ => rfl) rfl ?_
        refine w_iadd e91_79 ?_
        have e69 := tm_l hM (a := 244) (n := 4320) rfl
        refine w_lldO e91_80 e69 (by omega) (by omega) (by decide) (fun l70 => ?_)
        refine w_ldA e91_81 (fun _ => rfl) rfl ?_
        refine w_get e91_82 e61 rfl ?_
        refine w_kS e91_85 rfl ?_
        refine w_ldI e91_88 (fun _ => rfl) rfl ?_
        refine w_iadd e91_90 ?_
        refine w_lldO e91_91 e69 (by omega) (by omega) (by decide) (fun l71 => ?_)
        refine w_oL e91_92 (fun _ => rfl) (fun l72 => ?_)
        refine w_cv e91_93 (by decide) rfl e61 rfl (Nat.le_of_ble_eq_true rfl) (Nat.le_of_ble_eq_true rfl) (Nat.le_of_ble_eq_true rfl) (by decide) (by decide) (c88 hM hK hJ hi0 (by omega)) (fun o73 v74 hq75 => ?_)
        obtain ⟨⟨sc76, ai77, al78, az79, hM80, hK81, hI82, hG83, hE84⟩, rfl⟩ := hq75
        have hF85 : fr [38] [257, 258, 259, 260] 69 70 sc ai al az sc76 ai77 al78 az79 := fr_t hF hG83 rfl rfl (by omega)
        have hB86 := hE84.1
        have hb87 := hE84.2
        refine w_iinc (A1 := [some (.ref 238), some (.int (vz i1)), some (.int (vz i2)), some (.int (vz i3)), some (.int (vz x4)), some (.int (vz x5)), some (.int (vz (x6 + 1))), none, none]) e91_96 rfl (by decide) rfl ?_
        refine w_x e91_99 (fun _ => rfl) ?_
        exact w_sub (A1 := [some (.ref 238), some (.int (vz i1)), some (.int (vz i2)), some (.int (vz i3)), some (.int (vz x4)), some (.int (vz x5)), some (.int (vz (x6 + 1))), none, none]) (And.intro rfl (And.intro rfl (And.intro rfl (And.intro rfl (And.intro rfl (And.intro rfl (And.intro rfl trivial))))))) ((ih.2.2.1) v74 sc76 ai77 al78 az79 x4 x5 (x6 + 1) hM80 hK81 hI82 hF85 hx4 (by omega) (by omega) hB86 (by omega) (by omega))
    ·
      intro vh sc_ ai_ al_ az_ x4 y5 x7 x8 hM hK hJ hF hx4 hx7 hx8 hi0 hi1 hN
      refine w_ldI e91_147 (fun _ => rfl) rfl ?_
      refine w_ldA e91_149 (fun _ => rfl) rfl ?_
      have e88 := tm_o hM
      refine w_get e91_150 e88 rfl ?_
      refine w_ldI e91_153 (fun _ => rfl) rfl ?_
      have e89 := tm_i hM (a := 242) (n := 72) rfl
      refine w_ald e91_154 e89 (by omega) (by omega) (by decide) ?_
      show vm_Wp _ _ _ 155 _ [.int (vz (ai_ 242 (i1).toNat)), .int (vz x8)] _ _
      have hk90 := hK.1 (i1).toNat
      refine w_ic e91_155 (by omega) (tm_r hM 242 (i1).toNat) (fun (h91 : ai_ 242 (i1).toNat ≤ x8) => ?_) (fun (h91 : x8 < ai_ 242 (i1).toNat) => ?_)
      ·
        refine w_iinc (A1 := [some (.ref 238), some (.int (vz i1)), some (.int (vz i2)), some (.int (vz i3)), some (.int (vz x4)), some (.long y5), none, some (.int (vz (x7 + 1))), some (.int (vz x8))]) e91_220 rfl (by decide) rfl ?_
        refine w_x e91_223 (fun _ => rfl) ?_
        exact w_sub (A1 := [some (.ref 238), some (.int (vz i1)), some (.int (vz i2)), some (.int (vz i3)), some (.int (vz x4)), some (.long y5), none, some (.int (vz (x7 + 1))), none]) (And.intro rfl (And.intro rfl (And.intro rfl (And.intro rfl (And.intro rfl (And.intro rfl (And.intro rfl trivial))))))) ((ih.2.1) vh sc_ ai_ al_ az_ x4 y5 (x7 + 1) hM hK hJ hF hx4 (by omega) hi0 (by omega) (by omega))
      ·
        refine w_ldA e91_158 (fun _ => rfl) rfl ?_
        refine w_ldA e91_159 (fun _ => rfl) rfl ?_
        refine w_get e91_160 e88 rfl ?_
        refine w_kS e91_163 rfl ?_
        refine w_ldI e91_166 (fun _ => rfl) rfl ?_
        refine w_iadd e91_168 ?_
        have e92 := tm_l hM (a := 243) (n := 4320) rfl
        refine w_lldO e91_169 e92 (by omega) (by omega) (by decide) (fun l93 => ?_)
        refine w_oL e91_170 (fun _ => rfl) (fun l94 => ?_)
        refine w_ldA e91_171 (fun _ => rfl) rfl ?_
        refine w_get e91_172 e88 rfl ?_
        refine w_kB e91_175 rfl ?_
        refine w_ldI e91_177 (fun _ => rfl) rfl ?_
        refine w_imul e91_178 ?_
        refine w_ldI e91_179 (fun _ => rfl) rfl ?_
        refine w_iadd e91_181 ?_
        refine w_lldO e91_182 e92 (by omega) (by omega) (by decide) (fun l95 => ?_)
        refine w_oL e91_183 (fun _ => rfl) (fun l96 => ?_)
        refine w_ldA e91_184 (fun _ => rfl) rfl ?_
        refine w_get e91_185 e88 rfl ?_
        refine w_kS e91_188 rfl ?_
        refine w_ldI e91_191 (fun _ => rfl) rfl ?_
        refine w_iadd e91_193 ?_
        have e97 := tm_l hM (a := 244) (n := 4320) rfl
        refine w_lldO e91_194 e97 (by omega) (by omega) (by decide) (fun l98 => ?_)
        refine w_ldL e91_195 (fun _ => rfl) rfl ?_
        refine w_oL e91_197 (fun _ => rfl) (fun l99 => ?_)
        refine w_ldA e91_198 (fun _ => rfl) rfl ?_
        refine w_get e91_199 e88 rfl ?_
        refine w_kB e91_202 rfl ?_
        refine w_ldI e91_204 (fun _ => rfl) rfl ?_
        refine w_imul e91_205 ?_
        refine w_ldI e91_206 (fun _ => rfl) rfl ?_
        refine w_iadd e91_208 ?_
        refine w_lldO e91_209 e97 (by omega) (by omega) (by decide) (fun l100 => ?_)
        refine w_oL e91_210 (fun _ => rfl) (fun l101 => ?_)
        refine w_cv e91_211 (by decide) rfl e88 rfl (Nat.le_of_ble_eq_true rfl) (Nat.le_of_ble_eq_true rfl) (Nat.le_of_ble_eq_true rfl) (by decide) (by decide) (c88 hM hK hJ hi0 (by omega)) (fun o102 v103 hq104 => ?_)
        obtain ⟨⟨sc105, ai106, al107, az108, hM109, hK110, hI111, hG112, hE113⟩, rfl⟩ := hq104
        have hF114 : fr [38] [257, 258, 259, 260] 69 70 sc ai al az sc105 ai106 al107 az108 := fr_t hF hG112 rfl rfl (by omega)
        have hB115 := hE113.1
        have hb116 := hE113.2
        refine w_iinc (A1 := [some (.ref 238), some (.int (vz i1)), some (.int (vz i2)), some (.int (vz i3)), some (.int (vz x4)), some (.long y5), none, some (.int (vz x7)), some (.int (vz (x8 + 1)))]) e91_214 rfl (by decide) rfl ?_
        refine w_x e91_217 (fun _ => rfl) ?_
        exact w_sub (A1 := [some (.ref 238), some (.int (vz i1)), some (.int (vz i2)), some (.int (vz i3)), some (.int (vz x4)), some (.long y5), none, some (.int (vz x7)), some (.int (vz (x8 + 1)))]) (And.intro rfl (And.intro rfl (And.intro rfl (And.intro rfl (And.intro rfl (And.intro rfl (And.intro rfl (And.intro rfl trivial)))))))) ((ih.2.2.2) v103 sc105 ai106 al107 az108 x4 y5 x7 (x8 + 1) hM109 hK110 hI111 hF114 hx4 (by omega) (by omega) hB115 (by omega) (by omega))
set_option maxRecDepth 100000 in
set_option maxHeartbeats 4000000 in
theorem c91 {sc : Nat → Int} {ai : Nat → Nat → Int} {al : Nat → Nat → Int64} {az : Nat → Nat → Int32} {v0 vh : vm_H} (hM : tm sc ai al az v0 vh) (hK : tmok ai) (hI : gi sc ai al az) {i1 : Int} (hi_1 : 16 ≤ i1 ∧ i1 < 67) {i2 : Int} (hi_2 : -2147483648 ≤ i2 ∧ i2 < 2147483648) {i3 : Int} (hi_3 : -2147483648 ≤ i3 ∧ i3 < 2147483648) : vm_Rp 4 104 91 [.ref 238, .int (vz i1), .int (vz i2), .int (vz i3)] vh (fun r v1 => (∃ (sc1 : Nat → Int) (ai1 : Nat → Nat → Int) (al1 : Nat → Nat → Int64) (az1 : Nat → Nat → Int32), tm sc1 ai1 al1 az1 v0 v1 ∧ tmok ai1 ∧ gi sc1 ai1 al1 az1 ∧ fr [38] [257, 258, 259, 260] 69 70 sc ai al az sc1 ai1 al1 az1 ∧ (True)) ∧ ∃ q : Int, ((0 ≤ q ∧ q ≤ 1)) ∧ r = some (.int (vz q))) := by
  have hF0 : fr [38] [257, 258, 259, 260] 69 70 sc ai al az sc ai al az := fr_0 _ _ _ _ _ _ _ _
  have h38 := hI.2.1
  refine w_in (m := 5) ?_
  show vm_Wp _ _ _ 0 [some (.ref 238), some (.int (vz i1)), some (.int (vz i2)), some (.int (vz i3)), none, none, none, none, none] [] _ _
  refine w_ldA e91_0 (fun _ => rfl) rfl ?_
  refine w_kB e91_1 rfl ?_
  refine w_ldI e91_3 (fun _ => rfl) rfl ?_
  have e1 := tm_o hM
  refine w_cv e91_4 (by decide) rfl e1 rfl (Nat.le_of_ble_eq_true rfl) (Nat.le_of_ble_eq_true rfl) (Nat.le_of_ble_eq_true rfl) (by decide) (by decide) (c85 hM hK (by omega) hi_2) (fun o2 v3 hq4 => ?_)
  obtain ⟨rfl, rfl⟩ := hq4
  have hp5 := dgf_bd (al 244) (60 * (69 : Int)).toNat i2 (ai 242 (69 : Int).toNat).toNat
  refine w_stI (j := 4) (A1 := [some (.ref 238), some (.int (vz i1)), some (.int (vz i2)), some (.int (vz i3)), some (.int (vz (dgf (al 244) (60 * (69 : Int)).toNat i2 (ai 242 (69 : Int).toNat).toNat))), none, none, none, none]) e91_7 (fun _ => rfl) (by decide) rfl ?_
  refine w_ldA e91_9 (fun _ => rfl) rfl ?_
  refine w_ldI e91_10 (fun _ => rfl) rfl ?_
  refine w_ldI e91_11 (fun _ => rfl) rfl ?_
  refine w_ldI e91_12 (fun _ => rfl) rfl ?_
  refine w_cv e91_13 (by decide) rfl e1 rfl (Nat.le_of_ble_eq_true rfl) (Nat.le_of_ble_eq_true rfl) (Nat.le_of_ble_eq_true rfl) (by decide) (by decide) (k87j hM hK hI.1 (by omega) hi_2 hi_3 (by omega)) (fun o6 v7 hq8 => ?_)
  obtain ⟨⟨sc9, ai10, al11, az12, hM13, hK14, hI15, hG16, hE17⟩, rfl⟩ := hq8
  have hs18 : sc9 38 = sc 38 := hG16.1 38 rfl
  have hF19 : fr [38] [257, 258, 259, 260] 69 70 sc ai al az sc9 ai10 al11 az12 := fr_t hF0 hG16 rfl rfl (by omega)
  have hB20 := tb_fr (tb_0 hI) hG16 rfl rfl rfl
  refine w_kI e91_16 ?_
  refine w_stI (j := 5) (A1 := [some (.ref 238), some (.int (vz i1)), some (.int (vz i2)), some (.int (vz i3)), some (.int (vz (dgf (al 244) (60 * (69 : Int)).toNat i2 (ai 242 (69 : Int).toNat).toNat))), some (.int (vz 0)), none, none, none]) e91_17 (fun _ => rfl) (by decide) rfl ?_
  exact w_sub (A1 := [some (.ref 238), some (.int (vz i1)), some (.int (vz i2)), some (.int (vz i3)), some (.int (vz (dgf (al 244) (60 * (69 : Int)).toNat i2 (ai 242 (69 : Int).toNat).toNat))), some (.int (vz 0)), none, none, none]) (And.intro rfl (And.intro rfl (And.intro rfl (And.intro rfl (And.intro rfl (And.intro rfl trivial)))))) (((c91_L (sc := sc) (ai := ai) (al := al) (az := az) (v0 := v0) (i1 := i1) (i2 := i2) (i3 := i3) hK hI hi_1 hi_2 hi_3 _).1) v7 sc9 ai10 al11 az12 (dgf (al 244) (60 * (69 : Int)).toNat i2 (ai 242 (69 : Int).toNat).toNat) 0 hM13 hK14 hI15 hF19 (by omega) (by omega) hB20 (by omega) (Nat.lt_succ_self _))
set_option maxRecDepth 100000 in
set_option maxHeartbeats 4000000 in
theorem c92_L {sc : Nat → Int} {ai : Nat → Nat → Int} {al : Nat → Nat → Int64} {az : Nat → Nat → Int32} {v0 : vm_H} (hK0 : tmok ai) (hI : gi sc ai al az) {i1 : Int} (hi_1 : -2147483648 ≤ i1 ∧ i1 < 2147483648) {i2 : Int} (hi_2 : -2147483648 ≤ i2 ∧ i2 < 2147483648) {i3 : Int} (hi_3 : -2147483648 ≤ i3 ∧ i3 < 2147483648) {i4 : Int} (hi_4 : -2147483648 ≤ i4 ∧ i4 < 2147483648) {n : Int} (hn : nk sc ai n) (hm : 0 ≤ i1 ∧ i1 < n) (h7 : sc 27 < 200) : ∀ N : Nat, (∀ (vh : vm_H) (sc_ : Nat → Int) (ai_ : Nat → Nat → Int) (al_ : Nat → Nat → Int64) (az_ : Nat → Nat → Int32) (x5 : Int), (tm sc_ ai_ al_ az_ v0 vh) → (tmok ai_) → (gi sc_ ai_ al_ az_) → (fr [27, 28] [252, 253, 254, 255, 256] 70 70 sc ai al az sc_ ai_ al_ az_) → (0 ≤ x5 ∧ x5 ≤ ai_ 242 (70 : Int).toNat) → (∀ s : Nat, (s : Int) < sc 27 + 1 → (0 ≤ ai_ 252 s ∧ ai_ 252 s < n) ∧ 0 ≤ ai_ 253 s ∧ 0 ≤ ai_ 254 s ∧ ai_ 253 s + ai_ 254 s ≤ 12300) → (sc_ 27 = sc 27 ∧ sc_ 28 = sc 28 + x5) → ((60 - x5 : Int).toNat < N) → vm_Wp 2 49 92 50 [some (.ref 238), some (.int (vz i1)), some (.int (vz i2)), some (.int (vz i3)), some (.int (vz i4)), some (.int (vz x5))] [] vh (vq_P 92 (fun r v1 => (∃ (sc1 : Nat → Int) (ai1 : Nat → Nat → Int) (al1 : Nat → Nat → Int64) (az1 : Nat → Nat → Int32), tm sc1 ai1 al1 az1 v0 v1 ∧ tmok ai1 ∧ gi sc1 ai1 al1 az1 ∧ fr [27, 28] [252, 253, 254, 255, 256] 70 70 sc ai al az sc1 ai1 al1 az1 ∧ (nk sc1 ai1 n ∧ sc1 27 = sc 27 + 1)) ∧ r = none))) := by
  have hF0 : fr [27, 28] [252, 253, 254, 255, 256] 70 70 sc ai al az sc ai al az := fr_0 _ _ _ _ _ _ _ _
  intro N
  induction N with
  | zero => exact (by intros; omega)
  | succ N ih =>
    ·
      intro vh sc_ ai_ al_ az_ x5 hM hK hJ hF hx5 hi0 hi1 hN
      have hn1 := hn.1
      refine w_ldI e92_50 (fun _ => rfl) rfl ?_
      refine w_ldA e92_52 (fun _ => rfl) rfl ?_
      have e53 := tm_o hM
      refine w_get e92_53 e53 rfl ?_
      refine w_kB e92_56 rfl ?_
      have e54 := tm_i hM (a := 242) (n := 72) rfl
      refine w_ald e92_58 e54 (by omega) (by omega) (by decide) ?_
      show vm_Wp _ _ _ 59 _ [.int (vz (ai_ 242 (70 : Int).toNat)), .int (vz x5)] _ _
      have hk55 := hK.1 (70 : Int).toNat
      refine w_ic e92_59 (by omega) (tm_r hM 242 (70 : Int).toNat) (fun (h56 : ai_ 242 (70 : Int).toNat ≤ x5) => ?_) (fun (h56 : x5 < ai_ 242 (70 : Int).toNat) => ?_)
      ·
        refine w_ldA e92_129 (fun _ => rfl) rfl ?_
        refine w_x e92_130 (fun _ => rfl) ?_
        refine w_get e92_131 e53 rfl ?_
        refine w_kI e92_134 ?_
        refine w_iadd e92_135 ?_
        refine w_put e92_136 e53 (Nat.le_of_ble_eq_true rfl) rfl (fun v59 b57 h58 => ?_)
        obtain ⟨sc60, hd62, hM61⟩ : ∃ z, z = u1 sc_ 27 ((sc_ 27) + 1) ∧ tm z ai_ al_ az_ v0 v59 := ⟨_, rfl, tm_ps 27 hM (by omega) b57 h58⟩
        have hs63 : sc60 27 = (sc_ 27) + 1 := by rw [hd62]; exact u1_s
        have hs64 : sc60 28 = sc_ 28 := by rw [hd62]; exact u1_o (by decide)
        have hF65 : fr [27, 28] [252, 253, 254, 255, 256] 70 70 sc ai al az sc60 ai_ al_ az_ := fr_s hF hd62 rfl
        have hI66 : gi sc60 ai_ al_ az_ := gi_s hJ hd62 (by decide) (by decide) (by decide)
        exact w_rv e92_139 rfl ⟨⟨sc60, ai_, al_, az_, hM61, hK, hI66, hF65, ⟨⟨by omega, fun s hs => hi0 s (by omega)⟩, by omega⟩⟩, rfl⟩
      ·
        refine w_ldA e92_62 (fun _ => rfl) rfl ?_
        refine w_get e92_63 e53 rfl ?_
        refine w_ldA e92_66 (fun _ => rfl) rfl ?_
        refine w_get e92_67 e53 rfl ?_
        refine w_ldA e92_70 (fun _ => rfl) rfl ?_
        refine w_get e92_71 e53 rfl ?_
        refine w_kS e92_74 rfl ?_
        refine w_ldI e92_77 (fun _ => rfl) rfl ?_
        refine w_iadd e92_79 ?_
        have e67 := tm_l hM (a := 243) (n := 4320) rfl
        refine w_lldO e92_80 e67 (by omega) (by omega) (by decide) (fun l68 => ?_)
        have e69 := tm_l hM (a := 255) (n := 12300) rfl
        refine w_lst e92_81 e69 (by omega) (by omega) (by decide) (fun v72 b70 h71 => ?_)
        obtain ⟨al73, hd75, hM74⟩ : ∃ z, z = u2 al_ 255 (sc_ 28).toNat l68 ∧ tm sc_ ai_ z az_ v0 v72 := ⟨_, rfl, tm_pl hM rfl b70 h71⟩
        have hF76 : fr [27, 28] [252, 253, 254, 255, 256] 70 70 sc ai al az sc_ ai_ al73 az_ := fr_l hF hd75 rfl (by decide)
        have hI77 : gi sc_ ai_ al73 az_ := gi_l hJ hd75 (by decide)
        refine w_ldA e92_82 (fun _ => rfl) rfl ?_
        have e78 := tm_o hM74
        refine w_get e92_83 e78 rfl ?_
        refine w_ldA e92_86 (fun _ => rfl) rfl ?_
        refine w_get e92_87 e78 rfl ?_
        refine w_ldA e92_90 (fun _ => rfl) rfl ?_
        refine w_get e92_91 e78 rfl ?_
        refine w_kS e92_94 rfl ?_
        refine w_ldI e92_97 (fun _ => rfl) rfl ?_
        refine w_iadd e92_99 ?_
        have e79 := tm_l hM74 (a := 244) (n := 4320) rfl
        refine w_lldO e92_100 e79 (by omega) (by omega) (by decide) (fun l80 => ?_)
        refine w_ldI e92_101 (fun _ => rfl) rfl ?_
        refine w_ldI e92_102 (fun _ => rfl) rfl ?_
        refine w_isub e92_104 ?_
        refine w_oL e92_105 (fun _ => rfl) (fun l81 => ?_)
        refine w_kB e92_106 rfl ?_
        refine w_ldI e92_108 (fun _ => rfl) rfl ?_
        refine w_imul e92_109 ?_
        refine w_oL e92_110 (fun _ => rfl) (fun l82 => ?_)
        refine w_oL e92_111 (fun _ => rfl) (fun l83 => ?_)
        have e84 := tm_l hM74 (a := 256) (n := 12300) rfl
        refine w_lst e92_112 e84 (by omega) (by omega) (by decide) (fun v87 b85 h86 => ?_)
        obtain ⟨al88, hd90, hM89⟩ : ∃ z, z = u2 al73 256 (sc_ 28).toNat l83 ∧ tm sc_ ai_ z az_ v0 v87 := ⟨_, rfl, tm_pl hM74 rfl b85 h86⟩
        have hF91 : fr [27, 28] [252, 253, 254, 255, 256] 70 70 sc ai al az sc_ ai_ al88 az_ := fr_l hF76 hd90 rfl (by decide)
        have hI92 : gi sc_ ai_ al88 az_ := gi_l hI77 hd90 (by decide)
        refine w_ldA e92_113 (fun _ => rfl) rfl ?_
        refine w_x e92_114 (fun _ => rfl) ?_
        have e93 := tm_o hM89
        refine w_get e92_115 e93 rfl ?_
        refine w_kI e92_118 ?_
        refine w_iadd e92_119 ?_
        refine w_put e92_120 e93 (Nat.le_of_ble_eq_true rfl) rfl (fun v96 b94 h95 => ?_)
        obtain ⟨sc97, hd99, hM98⟩ : ∃ z, z = u1 sc_ 28 ((sc_ 28) + 1) ∧ tm z ai_ al88 az_ v0 v96 := ⟨_, rfl, tm_ps 28 hM89 (by omega) b94 h95⟩
        have hs100 : sc97 27 = sc_ 27 := by rw [hd99]; exact u1_o (by decide)
        have hs101 : sc97 28 = (sc_ 28) + 1 := by rw [hd99]; exact u1_s
        have hF102 : fr [27, 28] [252, 253, 254, 255, 256] 70 70 sc ai al az sc97 ai_ al88 az_ := fr_s hF91 hd99 rfl
        have hI103 : gi sc97 ai_ al88 az_ := gi_s hI92 hd99 (by decide) (by decide) (by decide)
        refine w_iinc (A1 := [some (.ref 238), some (.int (vz i1)), some (.int (vz i2)), some (.int (vz i3)), some (.int (vz i4)), some (.int (vz (x5 + 1)))]) e92_123 rfl (by decide) rfl ?_
        refine w_x e92_126 (fun _ => rfl) ?_
        exact w_sub (A1 := [some (.ref 238), some (.int (vz i1)), some (.int (vz i2)), some (.int (vz i3)), some (.int (vz i4)), some (.int (vz (x5 + 1)))]) (And.intro rfl (And.intro rfl (And.intro rfl (And.intro rfl (And.intro rfl (And.intro rfl trivial)))))) ((ih) v96 sc97 ai_ al88 az_ (x5 + 1) hM98 hK hI103 hF102 (by omega) hi0 (by omega) (by omega))
set_option maxRecDepth 100000 in
set_option maxHeartbeats 4000000 in
theorem c92 {sc : Nat → Int} {ai : Nat → Nat → Int} {al : Nat → Nat → Int64} {az : Nat → Nat → Int32} {v0 vh : vm_H} (hM : tm sc ai al az v0 vh) (hK : tmok ai) (hI : gi sc ai al az) {i1 : Int} (hi_1 : -2147483648 ≤ i1 ∧ i1 < 2147483648) {i2 : Int} (hi_2 : -2147483648 ≤ i2 ∧ i2 < 2147483648) {i3 : Int} (hi_3 : -2147483648 ≤ i3 ∧ i3 < 2147483648) {i4 : Int} (hi_4 : -2147483648 ≤ i4 ∧ i4 < 2147483648) {n : Int} (hn : nk sc ai n) (hm : 0 ≤ i1 ∧ i1 < n) (h7 : sc 27 < 200) : vm_Rp 2 49 92 [.ref 238, .int (vz i1), .int (vz i2), .int (vz i3), .int (vz i4)] vh (fun r v1 => (∃ (sc1 : Nat → Int) (ai1 : Nat → Nat → Int) (al1 : Nat → Nat → Int64) (az1 : Nat → Nat → Int32), tm sc1 ai1 al1 az1 v0 v1 ∧ tmok ai1 ∧ gi sc1 ai1 al1 az1 ∧ fr [27, 28] [252, 253, 254, 255, 256] 70 70 sc ai al az sc1 ai1 al1 az1 ∧ (nk sc1 ai1 n ∧ sc1 27 = sc 27 + 1)) ∧ r = none) := by
  have hF0 : fr [27, 28] [252, 253, 254, 255, 256] 70 70 sc ai al az sc ai al az := fr_0 _ _ _ _ _ _ _ _
  have hn1 := hn.1
  refine w_in (m := 1) ?_
  show vm_Wp _ _ _ 0 [some (.ref 238), some (.int (vz i1)), some (.int (vz i2)), some (.int (vz i3)), some (.int (vz i4)), none] [] _ _
  refine w_ldA e92_0 (fun _ => rfl) rfl ?_
  refine w_kB e92_1 rfl ?_
  refine w_ldI e92_3 (fun _ => rfl) rfl ?_
  refine w_ldI e92_4 (fun _ => rfl) rfl ?_
  have e1 := tm_o hM
  refine w_cv e92_5 (by decide) rfl e1 rfl (Nat.le_of_ble_eq_true rfl) (Nat.le_of_ble_eq_true rfl) (Nat.le_of_ble_eq_true rfl) (by decide) (by decide) (k87 hM hK hI (by omega) hi_3 hi_2 (by omega)) (fun o2 v3 hq4 => ?_)
  obtain ⟨⟨sc5, ai6, al7, az8, hM9, hK10, hI11, hG12, hE13⟩, rfl⟩ := hq4
  have hs14 : sc5 27 = sc 27 := hG12.1 27 rfl
  have hs15 : sc5 28 = sc 28 := hG12.1 28 rfl
  have hF16 : fr [27, 28] [252, 253, 254, 255, 256] 70 70 sc ai al az sc5 ai6 al7 az8 := fr_t hF0 hG12 rfl rfl (by omega)
  refine w_ldA e92_8 (fun _ => rfl) rfl ?_
  have e17 := tm_o hM9
  refine w_get e92_9 e17 rfl ?_
  refine w_ldA e92_12 (fun _ => rfl) rfl ?_
  refine w_get e92_13 e17 rfl ?_
  refine w_ldI e92_16 (fun _ => rfl) rfl ?_
  have e18 := tm_i hM9 (a := 252) (n := 256) rfl
  refine w_ast e92_17 e18 (by omega) (by omega) (by decide) (by decide) (fun v21 b19 h20 => ?_)
  obtain ⟨ai22, hd24, hM23⟩ : ∃ z, z = u2 ai6 252 (sc5 27).toNat i1 ∧ tm sc5 z al7 az8 v0 v21 := ⟨_, rfl, tm_pi hM9 rfl hi_1 b19 h20⟩
  have hK25 : tmok ai22 := by rw [hd24]; exact tmok_u hK10 (by decide) (by decide)
  have hF26 : fr [27, 28] [252, 253, 254, 255, 256] 70 70 sc ai al az sc5 ai22 al7 az8 := fr_i hF16 hd24 rfl (by decide)
  have hI27 : gi sc5 ai22 al7 az8 := gi_i hI11 hd24 (by decide)
  refine w_ldA e92_18 (fun _ => rfl) rfl ?_
  have e28 := tm_o hM23
  refine w_get e92_19 e28 rfl ?_
  refine w_ldA e92_22 (fun _ => rfl) rfl ?_
  refine w_get e92_23 e28 rfl ?_
  refine w_ldA e92_26 (fun _ => rfl) rfl ?_
  refine w_get e92_27 e28 rfl ?_
  have e29 := tm_i hM23 (a := 253) (n := 256) rfl
  refine w_ast e92_30 e29 (by omega) (by omega) (by decide) (by decide) (fun v32 b30 h31 => ?_)
  obtain ⟨ai33, hd35, hM34⟩ : ∃ z, z = u2 ai22 253 (sc5 27).toNat (sc5 28) ∧ tm sc5 z al7 az8 v0 v32 := ⟨_, rfl, tm_pi hM23 rfl (tm_s hM23 28) b30 h31⟩
  have hK36 : tmok ai33 := by rw [hd35]; exact tmok_u hK25 (by decide) (by decide)
  have hF37 : fr [27, 28] [252, 253, 254, 255, 256] 70 70 sc ai al az sc5 ai33 al7 az8 := fr_i hF26 hd35 rfl (by decide)
  have hI38 : gi sc5 ai33 al7 az8 := gi_i hI27 hd35 (by decide)
  refine w_ldA e92_31 (fun _ => rfl) rfl ?_
  have e39 := tm_o hM34
  refine w_get e92_32 e39 rfl ?_
  refine w_ldA e92_35 (fun _ => rfl) rfl ?_
  refine w_get e92_36 e39 rfl ?_
  refine w_ldA e92_39 (fun _ => rfl) rfl ?_
  refine w_get e92_40 e39 rfl ?_
  refine w_kB e92_43 rfl ?_
  have e40 := tm_i hM34 (a := 242) (n := 72) rfl
  refine w_ald e92_45 e40 (by omega) (by omega) (by decide) ?_
  show vm_Wp _ _ _ 46 _ [.int (vz (ai33 242 (70 : Int).toNat)), .int (vz (sc5 27)), .ref 254] _ _
  have hk41 := hK36.1 (70 : Int).toNat
  have e42 := tm_i hM34 (a := 254) (n := 256) rfl
  refine w_ast e92_46 e42 (by omega) (by omega) (by decide) (by decide) (fun v45 b43 h44 => ?_)
  obtain ⟨ai46, hd48, hM47⟩ : ∃ z, z = u2 ai33 254 (sc5 27).toNat (ai33 242 (70 : Int).toNat) ∧ tm sc5 z al7 az8 v0 v45 := ⟨_, rfl, tm_pi hM34 rfl (tm_r hM34 242 (70 : Int).toNat) b43 h44⟩
  have hK49 : tmok ai46 := by rw [hd48]; exact tmok_u hK36 (by decide) (by decide)
  have hF50 : fr [27, 28] [252, 253, 254, 255, 256] 70 70 sc ai al az sc5 ai46 al7 az8 := fr_i hF37 hd48 rfl (by decide)
  have hI51 : gi sc5 ai46 al7 az8 := gi_i hI38 hd48 (by decide)
  have hk52 := hK49.1 (70 : Int).toNat
  refine w_kI e92_47 ?_
  refine w_stI (j := 5) (A1 := [some (.ref 238), some (.int (vz i1)), some (.int (vz i2)), some (.int (vz i3)), some (.int (vz i4)), some (.int (vz 0))]) e92_48 (fun _ => rfl) (by decide) rfl ?_
  exact w_sub (A1 := [some (.ref 238), some (.int (vz i1)), some (.int (vz i2)), some (.int (vz i3)), some (.int (vz i4)), some (.int (vz 0))]) (And.intro rfl (And.intro rfl (And.intro rfl (And.intro rfl (And.intro rfl (And.intro rfl trivial)))))) (((c92_L (sc := sc) (ai := ai) (al := al) (az := az) (v0 := v0) (i1 := i1) (i2 := i2) (i3 := i3) (i4 := i4) (n := n) hK hI hi_1 hi_2 hi_3 hi_4 hn hm h7 _)) v45 sc5 ai46 al7 az8 0 hM47 hK49 hI51 hF50 (by omega) (nk_add hn (by omega) (hG12.2.1 252 rfl (by decide)) (hG12.2.1 253 rfl (by decide)) (hG12.2.1 254 rfl (by decide)) hd24 hd35 hd48 (by omega) (by omega) (by omega)) (by omega) (Nat.lt_succ_self _))
set_option maxRecDepth 100000 in
set_option maxHeartbeats 4000000 in
theorem c93_L {sc : Nat → Int} {ai : Nat → Nat → Int} {al : Nat → Nat → Int64} {az : Nat → Nat → Int32} {v0 : vm_H} (hK0 : tmok ai) (hI : gi sc ai al az) {i1 : Int} (hi_1 : 0 ≤ i1 ∧ i1 ≤ 1) {i2 : Int} (hi_2 : 0 ≤ i2 ∧ i2 ≤ 200) (hb : 0 ≤ sc 40 ∧ sc 40 ≤ 8) (hB : bs sc ai al az (sc 40) 67) (hn : i1 = 0 ∨ (sc 27 = 0 ∧ sc 28 = 0)) : ∀ N : Nat, (∀ (vh : vm_H) (sc_ : Nat → Int) (ai_ : Nat → Nat → Int) (al_ : Nat → Nat → Int64) (az_ : Nat → Nat → Int32) (x3 : Int), (tm sc_ ai_ al_ az_ v0 vh) → (tmok ai_) → (gi sc_ ai_ al_ az_) → (fr [27, 28, 38, 41] [252, 253, 254, 255, 256, 257, 258, 259, 260] 69 70 sc ai al az sc_ ai_ al_ az_) → (-1 ≤ x3 ∧ x3 < sc 40) → (bs sc_ ai_ al_ az_ (sc 40) 67) → (i1 = 0 ∨ (nk sc_ ai_ (sc 40) ∧ sc_ 27 = sc_ 41)) → (sc_ 40 = sc 40 ∧ 0 ≤ sc_ 41 ∧ sc_ 41 ≤ i2) → ((x3 * 1000 + 1500 + i2 - sc_ 41 : Int).toNat < N) → vm_Wp 5 132 93 12 [some (.ref 238), some (.int (vz i1)), some (.int (vz i2)), some (.int (vz x3)), none, none] [] vh (vq_P 93 (fun r v1 => (∃ (sc1 : Nat → Int) (ai1 : Nat → Nat → Int) (al1 : Nat → Nat → Int64) (az1 : Nat → Nat → Int32), tm sc1 ai1 al1 az1 v0 v1 ∧ tmok ai1 ∧ gi sc1 ai1 al1 az1 ∧ fr [27, 28, 38, 41] [252, 253, 254, 255, 256, 257, 258, 259, 260] 69 70 sc ai al az sc1 ai1 al1 az1 ∧ ((0 ≤ sc1 41 ∧ sc1 41 ≤ i2) ∧ (i1 = 0 ∨ nk sc1 ai1 (sc 40)))) ∧ ∃ q : Int, ((0 ≤ q ∧ q ≤ 1)) ∧ r = some (.int (vz q))))) ∧ (∀ (vh : vm_H) (sc_ : Nat → Int) (ai_ : Nat → Nat → Int) (al_ : Nat → Nat → Int64) (az_ : Nat → Nat → Int32) (x3 : Int) (x4 : Int) (x5 : Int), (tm sc_ ai_ al_ az_ v0 vh) → (tmok ai_) → (gi sc_ ai_ al_ az_) → (fr [27, 28, 38, 41] [252, 253, 254, 255, 256, 257, 258, 259, 260] 69 70 sc ai al az sc_ ai_ al_ az_) → (0 ≤ x3 ∧ x3 < sc 40) → (-2147483648 ≤ x4 ∧ x4 < 2147483648) → (-2147483648 ≤ x5 ∧ x5 < 2147483648) → (bs sc_ ai_ al_ az_ (sc 40) 67) → (i1 = 0 ∨ (nk sc_ ai_ (sc 40) ∧ sc_ 27 = sc_ 41)) → (sc_ 40 = sc 40 ∧ 0 ≤ sc_ 41 ∧ sc_ 41 ≤ i2) → ((x3 * 1000 + 1000 + i2 - sc_ 41 : Int).toNat < N) → vm_Wp 5 132 93 47 [some (.ref 238), some (.int (vz i1)), some (.int (vz i2)), some (.int (vz x3)), some (.int (vz x4)), some (.int (vz x5))] [] vh (vq_P 93 (fun r v1 => (∃ (sc1 : Nat → Int) (ai1 : Nat → Nat → Int) (al1 : Nat → Nat → Int64) (az1 : Nat → Nat → Int32), tm sc1 ai1 al1 az1 v0 v1 ∧ tmok ai1 ∧ gi sc1 ai1 al1 az1 ∧ fr [27, 28, 38, 41] [252, 253, 254, 255, 256, 257, 258, 259, 260] 69 70 sc ai al az sc1 ai1 al1 az1 ∧ ((0 ≤ sc1 41 ∧ sc1 41 ≤ i2) ∧ (i1 = 0 ∨ nk sc1 ai1 (sc 40)))) ∧ ∃ q : Int, ((0 ≤ q ∧ q ≤ 1)) ∧ r = some (.int (vz q))))) := by
  have hF0 : fr [27, 28, 38, 41] [252, 253, 254, 255, 256, 257, 258, 259, 260] 69 70 sc ai al az sc ai al az := fr_0 _ _ _ _ _ _ _ _
  intro N
  induction N with
  | zero => exact ⟨by intros; omega, by intros; omega⟩
  | succ N ih =>
    refine ⟨?_, ?_⟩
    ·
      intro vh sc_ ai_ al_ az_ x3 hM hK hJ hF hx3 hi0 hi1 hi2 hN
      have hn8 := hJ.1.1.1
      refine w_ldI e93_12 (fun _ => rfl) rfl ?_
      refine w_if e93_13 (by omega) (fun (h17 : x3 < 0) => ?_) (fun (h17 : 0 ≤ x3) => ?_)
      ·
        refine w_kI e93_139 ?_
        exact w_rz e93_140 rfl (by omega) ⟨⟨sc_, ai_, al_, az_, hM, hK, hJ, hF, ⟨by omega, hi1.imp id And.left⟩⟩, 1, (by omega), rfl⟩
      ·
        refine w_ldA e93_16 (fun _ => rfl) rfl ?_
        have e18 := tm_o hM
        refine w_get e93_17 e18 rfl ?_
        refine w_ldA e93_20 (fun _ => rfl) rfl ?_
        refine w_ldA e93_21 (fun _ => rfl) rfl ?_
        refine w_get e93_22 e18 rfl ?_
        refine w_ldI e93_25 (fun _ => rfl) rfl ?_
        have e19 := tm_i hM (a := 261) (n := 8) rfl
        refine w_ald e93_26 e19 (by omega) (by omega) (by decide) ?_
        show vm_Wp _ _ _ 27 _ [.int (vz (ai_ 261 (x3).toNat)), .ref 238, .ref 240] _ _
        have hb20 := hi0 (x3).toNat (by omega)
        refine w_cv e93_27 (by decide) rfl e18 rfl (Nat.le_of_ble_eq_true rfl) (Nat.le_of_ble_eq_true rfl) (Nat.le_of_ble_eq_true rfl) (by decide) (by decide) (c86 hM hK (by omega) hJ.1.1.1) (fun o21 v22 hq23 => ?_)
        obtain ⟨rfl, rfl⟩ := hq23
        have hp24 := mpI_bd sc_ ai_ al_ az_ (ai_ 261 (x3).toNat) hJ.1.1.1
        show vm_Wp _ _ _ 30 _ [.int (vz (mpI sc_ ai_ al_ az_ (ai_ 261 (x3).toNat))), .ref 240] _ _
        have e25 := tm_i hM (a := 240) (n := 8) rfl
        refine w_ald e93_30 e25 (by omega) (by omega) (by decide) ?_
        show vm_Wp _ _ _ 31 _ [.int (vz (ai_ 240 (mpI sc_ ai_ al_ az_ (ai_ 261 (x3).toNat)).toNat))] _ _
        have hk26 := hK.2 (mpI sc_ ai_ al_ az_ (ai_ 261 (x3).toNat)).toNat
        refine w_stI (j := 4) (A1 := [some (.ref 238), some (.int (vz i1)), some (.int (vz i2)), some (.int (vz x3)), some (.int (vz (ai_ 240 (mpI sc_ ai_ al_ az_ (ai_ 261 (x3).toNat)).toNat))), none]) e93_31 (fun _ => rfl) (by decide) rfl ?_
        refine w_ldA e93_33 (fun _ => rfl) rfl ?_
        refine w_ldA e93_34 (fun _ => rfl) rfl ?_
        refine w_get e93_35 e18 rfl ?_
        refine w_ldI e93_38 (fun _ => rfl) rfl ?_
        refine w_ald e93_39 e19 (by omega) (by omega) (by decide) ?_
        show vm_Wp _ _ _ 40 _ [.int (vz (ai_ 261 (x3).toNat)), .ref 238] _ _
        have hb27 := hi0 (x3).toNat (by omega)
        refine w_ldI e93_40 (fun _ => rfl) rfl ?_
        refine w_cv e93_42 (by decide) rfl e18 rfl (Nat.le_of_ble_eq_true rfl) (Nat.le_of_ble_eq_true rfl) (Nat.le_of_ble_eq_true rfl) (by decide) (by decide) (c85 hM hK (by omega) (tm_r hM 240 (mpI sc_ ai_ al_ az_ (ai_ 261 (x3).toNat)).toNat)) (fun o28 v29 hq30 => ?_)
        obtain ⟨rfl, rfl⟩ := hq30
        have hp31 := dgf_bd (al_ 244) (60 * (ai_ 261 (x3).toNat)).toNat (ai_ 240 (mpI sc_ ai_ al_ az_ (ai_ 261 (x3).toNat)).toNat) (ai_ 242 (ai_ 261 (x3).toNat).toNat).toNat
        refine w_stI (j := 5) (A1 := [some (.ref 238), some (.int (vz i1)), some (.int (vz i2)), some (.int (vz x3)), some (.int (vz (ai_ 240 (mpI sc_ ai_ al_ az_ (ai_ 261 (x3).toNat)).toNat))), some (.int (vz (dgf (al_ 244) (60 * (ai_ 261 (x3).toNat)).toNat (ai_ 240 (mpI sc_ ai_ al_ az_ (ai_ 261 (x3).toNat)).toNat) (ai_ 242 (ai_ 261 (x3).toNat).toNat).toNat)))]) e93_45 (fun _ => rfl) (by decide) rfl ?_
        exact w_sub (A1 := [some (.ref 238), some (.int (vz i1)), some (.int (vz i2)), some (.int (vz x3)), some (.int (vz (ai_ 240 (mpI sc_ ai_ al_ az_ (ai_ 261 (x3).toNat)).toNat))), some (.int (vz (dgf (al_ 244) (60 * (ai_ 261 (x3).toNat)).toNat (ai_ 240 (mpI sc_ ai_ al_ az_ (ai_ 261 (x3).toNat)).toNat) (ai_ 242 (ai_ 261 (x3).toNat).toNat).toNat)))]) (And.intro rfl (And.intro rfl (And.intro rfl (And.intro rfl (And.intro rfl (And.intro rfl trivial)))))) ((ih.2) vh sc_ ai_ al_ az_ x3 (ai_ 240 (mpI sc_ ai_ al_ az_ (ai_ 261 (x3).toNat)).toNat) (dgf (al_ 244) (60 * (ai_ 261 (x3).toNat)).toNat (ai_ 240 (mpI sc_ ai_ al_ az_ (ai_ 261 (x3).toNat)).toNat) (ai_ 242 (ai_ 261 (x3).toNat).toNat).toNat) hM hK hJ hF (by omega) (tm_r hM 240 (mpI sc_ ai_ al_ az_ (ai_ 261 (x3).toNat)).toNat) (by omega) hi0 hi1 (by omega) (by omega))
    ·
      intro vh sc_ ai_ al_ az_ x3 x4 x5 hM hK hJ hF hx3 hx4 hx5 hi0 hi1 hi2 hN
      have hn8 := hJ.1.1.1
      refine w_ldA e93_47 (fun _ => rfl) rfl ?_
      have e32 := tm_o hM
      refine w_get e93_48 e32 rfl ?_
      refine w_kB e93_51 rfl ?_
      have e33 := tm_i hM (a := 242) (n := 72) rfl
      refine w_ald e93_53 e33 (by omega) (by omega) (by decide) ?_
      show vm_Wp _ _ _ 54 _ [.int (vz (ai_ 242 (69 : Int).toNat))] _ _
      have hk34 := hK.1 (69 : Int).toNat
      refine w_if e93_54 (tm_r hM 242 (69 : Int).toNat) (fun (h35 : ai_ 242 (69 : Int).toNat ≤ 0) => ?_) (fun (h35 : 0 < ai_ 242 (69 : Int).toNat) => ?_)
      ·
        refine w_iinc (A1 := [some (.ref 238), some (.int (vz i1)), some (.int (vz i2)), some (.int (vz (x3 + (-1)))), some (.int (vz x4)), some (.int (vz x5))]) e93_133 rfl (by decide) rfl ?_
        refine w_x e93_136 (fun _ => rfl) ?_
        exact w_sub (A1 := [some (.ref 238), some (.int (vz i1)), some (.int (vz i2)), some (.int (vz (x3 + (-1)))), none, none]) (And.intro rfl (And.intro rfl (And.intro rfl (And.intro rfl trivial)))) ((ih.1) vh sc_ ai_ al_ az_ (x3 + (-1)) hM hK hJ hF (by omega) hi0 hi1 (by omega) (by omega))
      ·
        refine w_ldA e93_57 (fun _ => rfl) rfl ?_
        refine w_kB e93_58 rfl ?_
        refine w_ldI e93_60 (fun _ => rfl) rfl ?_
        refine w_cv e93_62 (by decide) rfl e32 rfl (Nat.le_of_ble_eq_true rfl) (Nat.le_of_ble_eq_true rfl) (Nat.le_of_ble_eq_true rfl) (by decide) (by decide) (c85 hM hK (by omega) hx4) (fun o36 v37 hq38 => ?_)
        obtain ⟨rfl, rfl⟩ := hq38
        have hp39 := dgf_bd (al_ 244) (60 * (69 : Int)).toNat x4 (ai_ 242 (69 : Int).toNat).toNat
        refine w_ldI e93_65 (fun _ => rfl) rfl ?_
        refine w_ic e93_67 (by omega) hx5 (fun (h40 : dgf (al_ 244) (60 * (69 : Int)).toNat x4 (ai_ 242 (69 : Int).toNat).toNat < x5) => ?_) (fun (h40 : x5 ≤ dgf (al_ 244) (60 * (69 : Int)).toNat x4 (ai_ 242 (69 : Int).toNat).toNat) => ?_)
        ·
          refine w_iinc (A1 := [some (.ref 238), some (.int (vz i1)), some (.int (vz i2)), some (.int (vz (x3 + (-1)))), some (.int (vz x4)), some (.int (vz x5))]) e93_133 rfl (by decide) rfl ?_
          refine w_x e93_136 (fun _ => rfl) ?_
          exact w_sub (A1 := [some (.ref 238), some (.int (vz i1)), some (.int (vz i2)), some (.int (vz (x3 + (-1)))), none, none]) (And.intro rfl (And.intro rfl (And.intro rfl (And.intro rfl trivial)))) ((ih.1) vh sc_ ai_ al_ az_ (x3 + (-1)) hM hK hJ hF (by omega) hi0 hi1 (by omega) (by omega))
        ·
          refine w_ldA e93_70 (fun _ => rfl) rfl ?_
          refine w_get e93_71 e32 rfl ?_
          refine w_ldI e93_74 (fun _ => rfl) rfl ?_
          refine w_ic e93_75 (tm_s hM 41) (by omega) (fun (h41 : sc_ 41 ≠ i2) => ?_) (fun (h41 : sc_ 41 = i2) => ?_)
          ·
            refine w_ldI e93_80 (fun _ => rfl) rfl ?_
            refine w_if e93_81 (by omega) (fun (h42 : i1 = 0) => ?_) (fun (h42 : i1 ≠ 0) => ?_)
            ·
              refine w_ldA e93_101 (fun _ => rfl) rfl ?_
              refine w_ldA e93_102 (fun _ => rfl) rfl ?_
              refine w_get e93_103 e32 rfl ?_
              refine w_ldI e93_106 (fun _ => rfl) rfl ?_
              have e43 := tm_i hM (a := 261) (n := 8) rfl
              refine w_ald e93_107 e43 (by omega) (by omega) (by decide) ?_
              show vm_Wp _ _ _ 108 _ [.int (vz (ai_ 261 (x3).toNat)), .ref 238] _ _
              have hb44 := hi0 (x3).toNat (by omega)
              refine w_ldI e93_108 (fun _ => rfl) rfl ?_
              refine w_ldI e93_110 (fun _ => rfl) rfl ?_
              refine w_cv e93_112 (by decide) rfl e32 rfl (Nat.le_of_ble_eq_true rfl) (Nat.le_of_ble_eq_true rfl) (Nat.le_of_ble_eq_true rfl) (by decide) (by decide) (c91 hM hK hJ (by omega) hx4 hx5) (fun o45 v46 hq47 => ?_)
              obtain ⟨⟨sc48, ai49, al50, az51, hM52, hK53, hI54, hG55, hE56⟩, q57, h58, rfl⟩ := hq47
              have hs59 : sc48 1 = sc_ 1 := hG55.1 1 rfl
              have hs60 : sc48 27 = sc_ 27 := hG55.1 27 rfl
              have hs61 : sc48 28 = sc_ 28 := hG55.1 28 rfl
              have hs62 : sc48 40 = sc_ 40 := hG55.1 40 rfl
              have hs63 : sc48 41 = sc_ 41 := hG55.1 41 rfl
              have hF64 : fr [27, 28, 38, 41] [252, 253, 254, 255, 256, 257, 258, 259, 260] 69 70 sc ai al az sc48 ai49 al50 az51 := fr_t hF hG55 rfl rfl (by omega)
              have hB65 := bs_fr hi0 hK hG55 rfl rfl rfl rfl (by omega)
              refine w_if e93_115 (by omega) (fun (h66 : q57 ≠ 0) => ?_) (fun (h66 : q57 = 0) => ?_)
              ·
                refine w_ldA e93_120 (fun _ => rfl) rfl ?_
                refine w_x e93_121 (fun _ => rfl) ?_
                have e67 := tm_o hM52
                refine w_get e93_122 e67 rfl ?_
                refine w_kI e93_125 ?_
                refine w_iadd e93_126 ?_
                refine w_put e93_127 e67 (Nat.le_of_ble_eq_true rfl) rfl (fun v70 b68 h69 => ?_)
                obtain ⟨sc71, hd73, hM72⟩ : ∃ z, z = u1 sc48 41 ((sc48 41) + 1) ∧ tm z ai49 al50 az51 v0 v70 := ⟨_, rfl, tm_ps 41 hM52 (by omega) b68 h69⟩
                have hs74 : sc71 1 = sc48 1 := by rw [hd73]; exact u1_o (by decide)
                have hs75 : sc71 27 = sc48 27 := by rw [hd73]; exact u1_o (by decide)
                have hs76 : sc71 28 = sc48 28 := by rw [hd73]; exact u1_o (by decide)
                have hs77 : sc71 40 = sc48 40 := by rw [hd73]; exact u1_o (by decide)
                have hs78 : sc71 41 = (sc48 41) + 1 := by rw [hd73]; exact u1_s
                have hF79 : fr [27, 28, 38, 41] [252, 253, 254, 255, 256, 257, 258, 259, 260] 69 70 sc ai al az sc71 ai49 al50 az51 := fr_s hF64 hd73 rfl
                have hI80 : gi sc71 ai49 al50 az51 := gi_s hI54 hd73 (by decide) (by decide) (by decide)
                have hB81 := bs_fr (X := [41]) (Y := []) (lo := 1) (hi := 0) hB65 hK53 (fr_s (fr_0 _ _ _ _ _ _ _ _) hd73 rfl) rfl rfl rfl rfl (by omega)
                refine w_x e93_130 (fun _ => rfl) ?_
                exact w_sub (A1 := [some (.ref 238), some (.int (vz i1)), some (.int (vz i2)), some (.int (vz x3)), some (.int (vz x4)), some (.int (vz x5))]) (And.intro rfl (And.intro rfl (And.intro rfl (And.intro rfl (And.intro rfl (And.intro rfl trivial)))))) ((ih.2) v70 sc71 ai49 al50 az51 x3 x4 x5 hM72 hK53 hI80 hF79 (by omega) hx4 hx5 hB81 (Or.inl h42) (by omega) (by omega))
              ·
                refine w_kI e93_118 ?_
                exact w_rz e93_119 rfl (by omega) ⟨⟨sc48, ai49, al50, az51, hM52, hK53, hI54, hF64, ⟨by omega, Or.inl h42⟩⟩, 0, (by omega), rfl⟩
            ·
              obtain ⟨hN82, hn83⟩ := hi1.resolve_left h42
              refine w_ldA e93_84 (fun _ => rfl) rfl ?_
              refine w_ldI e93_85 (fun _ => rfl) rfl ?_
              refine w_ldA e93_86 (fun _ => rfl) rfl ?_
              refine w_kB e93_87 rfl ?_
              refine w_ldI e93_89 (fun _ => rfl) rfl ?_
              refine w_cv e93_91 (by decide) rfl e32 rfl (Nat.le_of_ble_eq_true rfl) (Nat.le_of_ble_eq_true rfl) (Nat.le_of_ble_eq_true rfl) (by decide) (by decide) (c85 hM hK (by omega) hx4) (fun o84 v85 hq86 => ?_)
              obtain ⟨rfl, rfl⟩ := hq86
              have hp87 := dgf_bd (al_ 244) (60 * (69 : Int)).toNat x4 (ai_ 242 (69 : Int).toNat).toNat
              refine w_ldI e93_94 (fun _ => rfl) rfl ?_
              refine w_ldI e93_96 (fun _ => rfl) rfl ?_
              refine w_cv e93_98 (by decide) rfl e32 rfl (Nat.le_of_ble_eq_true rfl) (Nat.le_of_ble_eq_true rfl) (Nat.le_of_ble_eq_true rfl) (by decide) (by decide) (c92 hM hK hJ (by omega) (by omega) hx4 hx5 hN82 (by omega) (by omega)) (fun o88 v89 hq90 => ?_)
              obtain ⟨⟨sc91, ai92, al93, az94, hM95, hK96, hI97, hG98, hE99⟩, rfl⟩ := hq90
              have hs100 : sc91 1 = sc_ 1 := hG98.1 1 rfl
              have hs101 : sc91 40 = sc_ 40 := hG98.1 40 rfl
              have hs102 : sc91 41 = sc_ 41 := hG98.1 41 rfl
              have hF103 : fr [27, 28, 38, 41] [252, 253, 254, 255, 256, 257, 258, 259, 260] 69 70 sc ai al az sc91 ai92 al93 az94 := fr_t hF hG98 rfl rfl (by omega)
              have hB104 := bs_fr hi0 hK hG98 rfl rfl rfl rfl (by omega)
              have hN105 := hE99.1
              have hn106 := hE99.2
              refine w_ldA e93_101 (fun _ => rfl) rfl ?_
              refine w_ldA e93_102 (fun _ => rfl) rfl ?_
              have e107 := tm_o hM95
              refine w_get e93_103 e107 rfl ?_
              refine w_ldI e93_106 (fun _ => rfl) rfl ?_
              have e108 := tm_i hM95 (a := 261) (n := 8) rfl
              refine w_ald e93_107 e108 (by omega) (by omega) (by decide) ?_
              show vm_Wp _ _ _ 108 _ [.int (vz (ai92 261 (x3).toNat)), .ref 238] _ _
              have hb109 := hB104 (x3).toNat (by omega)
              refine w_ldI e93_108 (fun _ => rfl) rfl ?_
              refine w_ldI e93_110 (fun _ => rfl) rfl ?_
              refine w_cv e93_112 (by decide) rfl e107 rfl (Nat.le_of_ble_eq_true rfl) (Nat.le_of_ble_eq_true rfl) (Nat.le_of_ble_eq_true rfl) (by decide) (by decide) (c91 hM95 hK96 hI97 (by omega) hx4 hx5) (fun o110 v111 hq112 => ?_)
              obtain ⟨⟨sc113, ai114, al115, az116, hM117, hK118, hI119, hG120, hE121⟩, q122, h123, rfl⟩ := hq112
              have hs124 : sc113 1 = sc91 1 := hG120.1 1 rfl
              have hs125 : sc113 27 = sc91 27 := hG120.1 27 rfl
              have hs126 : sc113 28 = sc91 28 := hG120.1 28 rfl
              have hs127 : sc113 40 = sc91 40 := hG120.1 40 rfl
              have hs128 : sc113 41 = sc91 41 := hG120.1 41 rfl
              have hF129 : fr [27, 28, 38, 41] [252, 253, 254, 255, 256, 257, 258, 259, 260] 69 70 sc ai al az sc113 ai114 al115 az116 := fr_t hF103 hG120 rfl rfl (by omega)
              have hB130 := bs_fr hB104 hK96 hG120 rfl rfl rfl rfl (by omega)
              have hN131 : nk sc113 ai114 (sc 40) := by unfold nk; rw [hG120.1 27 rfl, hG120.1 28 rfl, hG120.2.1 252 rfl (by decide), hG120.2.1 253 rfl (by decide), hG120.2.1 254 rfl (by decide)]; exact hN105
              refine w_if e93_115 (by omega) (fun (h132 : q122 ≠ 0) => ?_) (fun (h132 : q122 = 0) => ?_)
              ·
                refine w_ldA e93_120 (fun _ => rfl) rfl ?_
                refine w_x e93_121 (fun _ => rfl) ?_
                have e133 := tm_o hM117
                refine w_get e93_122 e133 rfl ?_
                refine w_kI e93_125 ?_
                refine w_iadd e93_126 ?_
                refine w_put e93_127 e133 (Nat.le_of_ble_eq_true rfl) rfl (fun v136 b134 h135 => ?_)
                obtain ⟨sc137, hd139, hM138⟩ : ∃ z, z = u1 sc113 41 ((sc113 41) + 1) ∧ tm z ai114 al115 az116 v0 v136 := ⟨_, rfl, tm_ps 41 hM117 (by omega) b134 h135⟩
                have hs140 : sc137 1 = sc113 1 := by rw [hd139]; exact u1_o (by decide)
                have hs141 : sc137 27 = sc113 27 := by rw [hd139]; exact u1_o (by decide)
                have hs142 : sc137 28 = sc113 28 := by rw [hd139]; exact u1_o (by decide)
                have hs143 : sc137 40 = sc113 40 := by rw [hd139]; exact u1_o (by decide)
                have hs144 : sc137 41 = (sc113 41) + 1 := by rw [hd139]; exact u1_s
                have hF145 : fr [27, 28, 38, 41] [252, 253, 254, 255, 256, 257, 258, 259, 260] 69 70 sc ai al az sc137 ai114 al115 az116 := fr_s hF129 hd139 rfl
                have hI146 : gi sc137 ai114 al115 az116 := gi_s hI119 hd139 (by decide) (by decide) (by decide)
                have hB147 := bs_fr (X := [41]) (Y := []) (lo := 1) (hi := 0) hB130 hK118 (fr_s (fr_0 _ _ _ _ _ _ _ _) hd139 rfl) rfl rfl rfl rfl (by omega)
                have hN148 : nk sc137 ai114 (sc 40) := by unfold nk; rw [hd139, u1_o (by decide), u1_o (by decide)]; exact hN131
                refine w_x e93_130 (fun _ => rfl) ?_
                exact w_sub (A1 := [some (.ref 238), some (.int (vz i1)), some (.int (vz i2)), some (.int (vz x3)), some (.int (vz x4)), some (.int (vz x5))]) (And.intro rfl (And.intro rfl (And.intro rfl (And.intro rfl (And.intro rfl (And.intro rfl trivial)))))) ((ih.2) v136 sc137 ai114 al115 az116 x3 x4 x5 hM138 hK118 hI146 hF145 (by omega) hx4 hx5 hB147 (Or.inr ⟨hN148, by omega⟩) (by omega) (by omega))
              ·
                refine w_kI e93_118 ?_
                exact w_rz e93_119 rfl (by omega) ⟨⟨sc113, ai114, al115, az116, hM117, hK118, hI119, hF129, ⟨by omega, Or.inr hN131⟩⟩, 0, (by omega), rfl⟩
          ·
            refine w_kI e93_78 ?_
            exact w_rz e93_79 rfl (by omega) ⟨⟨sc_, ai_, al_, az_, hM, hK, hJ, hF, ⟨by omega, hi1.imp id And.left⟩⟩, 0, (by omega), rfl⟩
set_option maxRecDepth 100000 in
set_option maxHeartbeats 4000000 in
theorem c93 {sc : Nat → Int} {ai : Nat → Nat → Int} {al : Nat → Nat → Int64} {az : Nat → Nat → Int32} {v0 vh : vm_H} (hM : tm sc ai al az v0 vh) (hK : tmok ai) (hI : gi sc ai al az) {i1 : Int} (hi_1 : 0 ≤ i1 ∧ i1 ≤ 1) {i2 : Int} (hi_2 : 0 ≤ i2 ∧ i2 ≤ 200) (hb : 0 ≤ sc 40 ∧ sc 40 ≤ 8) (hB : bs sc ai al az (sc 40) 67) (hn : i1 = 0 ∨ (sc 27 = 0 ∧ sc 28 = 0)) : vm_Rp 5 132 93 [.ref 238, .int (vz i1), .int (vz i2)] vh (fun r v1 => (∃ (sc1 : Nat → Int) (ai1 : Nat → Nat → Int) (al1 : Nat → Nat → Int64) (az1 : Nat → Nat → Int32), tm sc1 ai1 al1 az1 v0 v1 ∧ tmok ai1 ∧ gi sc1 ai1 al1 az1 ∧ fr [27, 28, 38, 41] [252, 253, 254, 255, 256, 257, 258, 259, 260] 69 70 sc ai al az sc1 ai1 al1 az1 ∧ ((0 ≤ sc1 41 ∧ sc1 41 ≤ i2) ∧ (i1 = 0 ∨ nk sc1 ai1 (sc 40)))) ∧ ∃ q : Int, ((0 ≤ q ∧ q ≤ 1)) ∧ r = some (.int (vz q))) := by
  have hF0 : fr [27, 28, 38, 41] [252, 253, 254, 255, 256, 257, 258, 259, 260] 69 70 sc ai al az sc ai al az := fr_0 _ _ _ _ _ _ _ _
  refine w_in (m := 3) ?_
  show vm_Wp _ _ _ 0 [some (.ref 238), some (.int (vz i1)), some (.int (vz i2)), none, none, none] [] _ _
  refine w_ldA e93_0 (fun _ => rfl) rfl ?_
  refine w_kI e93_1 ?_
  have e1 := tm_o hM
  refine w_put e93_2 e1 (Nat.le_of_ble_eq_true rfl) rfl (fun v4 b2 h3 => ?_)
  obtain ⟨sc5, hd7, hM6⟩ : ∃ z, z = u1 sc 41 (0) ∧ tm z ai al az v0 v4 := ⟨_, rfl, tm_ps 41 hM (by omega) b2 h3⟩
  have hs8 : sc5 1 = sc 1 := by rw [hd7]; exact u1_o (by decide)
  have hs9 : sc5 27 = sc 27 := by rw [hd7]; exact u1_o (by decide)
  have hs10 : sc5 28 = sc 28 := by rw [hd7]; exact u1_o (by decide)
  have hs11 : sc5 40 = sc 40 := by rw [hd7]; exact u1_o (by decide)
  have hs12 : sc5 41 = 0 := by rw [hd7]; exact u1_s
  have hF13 : fr [27, 28, 38, 41] [252, 253, 254, 255, 256, 257, 258, 259, 260] 69 70 sc ai al az sc5 ai al az := fr_s hF0 hd7 rfl
  have hI14 : gi sc5 ai al az := gi_s hI hd7 (by decide) (by decide) (by decide)
  have hB15 := bs_fr (X := [41]) (Y := []) (lo := 1) (hi := 0) hB hK (fr_s (fr_0 _ _ _ _ _ _ _ _) hd7 rfl) rfl rfl rfl rfl (by omega)
  refine w_ldA e93_5 (fun _ => rfl) rfl ?_
  have e16 := tm_o hM6
  refine w_get e93_6 e16 rfl ?_
  refine w_kI e93_9 ?_
  refine w_isub e93_10 ?_
  refine w_stI (j := 3) (A1 := [some (.ref 238), some (.int (vz i1)), some (.int (vz i2)), some (.int (vz ((sc5 40) - 1))), none, none]) e93_11 (fun _ => rfl) (by decide) rfl ?_
  exact w_sub (A1 := [some (.ref 238), some (.int (vz i1)), some (.int (vz i2)), some (.int (vz ((sc5 40) - 1))), none, none]) (And.intro rfl (And.intro rfl (And.intro rfl (And.intro rfl trivial)))) (((c93_L (sc := sc) (ai := ai) (al := al) (az := az) (v0 := v0) (i1 := i1) (i2 := i2) hK hI hi_1 hi_2 hb hB hn _).1) v4 sc5 ai al az ((sc5 40) - 1) hM6 hK hI14 hF13 (by omega) hB15 (hn.imp id (fun h9 => ⟨nk_0 (by omega) (by omega), by omega⟩)) (by omega) (Nat.lt_succ_self _))
