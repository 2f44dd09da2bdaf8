set_option maxRecDepth 100000 in
set_option maxHeartbeats 4000000 in
theorem c23_L {θ : tc_S} {v0 : (Bool × Bool) × vm_H} {a0 : Nat} (ha0 : ty a0 = 1) (hw0 : wok v0 a0) {l_1 : Int64} {l_2 : Int64} : ∀ N : Nat, (∀ (vh : vm_H) (x5 : Int) (n : Int), (tc θ v0 vh) → (0 ≤ x5 ∧ x5 ≤ 60) → (vm_at vh a0 = some (.inr (1, [.ref (a0 + 1), .ref (a0 + 2), .int (vz n)]))) → (x5 ≤ n ∧ n ≤ 60) → ((200 - x5 : Int).toNat < N) → vm_Wp 2 51 23 21 [some (.ref a0), some (.long l_1), none, some (.long l_2), none, some (.int (vz x5)), none, none, none] [] vh (vq_P 23 (fun r v1 => (tc θ v0 v1) ∧ ∃ q : Int, ((0 ≤ q ∧ q ≤ 1)) ∧ r = some (.int (vz q))))) ∧ (∀ (vh : vm_H) (x5 : Int) (n : Int), (tc θ v0 vh) → (0 ≤ x5 ∧ x5 ≤ 60) → (vm_at vh a0 = some (.inr (1, [.ref (a0 + 1), .ref (a0 + 2), .int (vz n)]))) → (x5 ≤ n ∧ n ≤ 60) → ((2 : Int).toNat < N) → vm_Wp 2 51 23 48 [some (.ref a0), some (.long l_1), none, some (.long l_2), none, some (.int (vz x5)), none, none, none] [] vh (vq_P 23 (fun r v1 => (tc θ v0 v1) ∧ ∃ q : Int, ((0 ≤ q ∧ q ≤ 1)) ∧ r = some (.int (vz q))))) ∧ (∀ (vh : vm_H) (x5 : Int) (x6 : Int) (n : Int), (tc θ v0 vh) → (0 ≤ x5 ∧ x5 ≤ 60) → (0 ≤ x6 ∧ x6 ≤ 1) → (vm_at vh a0 = some (.inr (1, [.ref (a0 + 1), .ref (a0 + 2), .int (vz n)]))) → ((x6 = 0 ∨ x5 < n) ∧ x5 ≤ n ∧ n ≤ 60) → ((1 : Int).toNat < N) → vm_Wp 2 51 23 76 [some (.ref a0), some (.long l_1), none, some (.long l_2), none, some (.int (vz x5)), some (.int (vz x6)), none, none] [] vh (vq_P 23 (fun r v1 => (tc θ v0 v1) ∧ ∃ q : Int, ((0 ≤ q ∧ q ≤ 1)) ∧ r = some (.int (vz q))))) := by
  intro N
  induction N with
  | zero => exact ⟨by intros; omega, by intros; omega, by intros; omega⟩
  | succ N ih =>
    refine ⟨?_, ?_, ?_⟩
    ·
      intro vh x5 n hT hx5 hc_0 hi0 hN
      have hok : (0 ≤ θ.1 ∧ θ.1 ≤ 8) ∧ (0 ≤ θ.2.1 ∧ θ.2.1 ≤ 16) ∧ (-2147483648 ≤ θ.2.2.2.1 ∧ θ.2.2.2.1 < 2147483648) ∧ (0 ≤ θ.2.2.2.2 ∧ θ.2.2.2.2 ≤ 8) := hT.1
      refine w_ldI e23_21 (fun _ => rfl) rfl ?_
      refine w_ldA e23_23 (fun _ => rfl) rfl ?_
      refine w_get e23_24 hc_0 rfl ?_
      refine w_ic e23_27 (by omega) (by omega) (fun (h16 : n ≤ x5) => ?_) (fun (h16 : x5 < n) => ?_)
      ·
        exact w_sub (A1 := [some (.ref a0), some (.long l_1), none, some (.long l_2), none, some (.int (vz x5)), none, none, none]) (And.intro rfl (And.intro rfl (And.intro rfl (And.intro rfl trivial)))) ((ih.2.1) vh x5 n hT (by omega) hc_0 (by omega) (by omega))
      ·
        refine w_ldA e23_30 (fun _ => rfl) rfl ?_
        refine w_get e23_31 hc_0 rfl ?_
        refine w_ldI e23_34 (fun _ => rfl) rfl ?_
        obtain ⟨f18, e17⟩ := tc_l60 hT (ty_p ha0).1
        refine w_lldO e23_36 e17 (by omega) (by omega) (by decide) (fun l19 => ?_)
        refine w_ldL e23_37 (fun _ => rfl) rfl ?_
        refine w_lcmp e23_38 (fun q20 (h21 : -1 ≤ q20 ∧ q20 ≤ 1) h22 h23 => ?_)
        refine w_if e23_39 (by omega) (fun (h24 : q20 ≤ 0) => ?_) (fun (h24 : 0 < q20) => ?_)
        ·
          exact w_sub (A1 := [some (.ref a0), some (.long l_1), none, some (.long l_2), none, some (.int (vz x5)), none, none, none]) (And.intro rfl (And.intro rfl (And.intro rfl (And.intro rfl trivial)))) ((ih.2.1) vh x5 n hT (by omega) hc_0 (by omega) (by omega))
        ·
          refine w_iinc (A1 := [some (.ref a0), some (.long l_1), none, some (.long l_2), none, some (.int (vz (x5 + 1))), none, none, none]) e23_42 rfl (by decide) rfl ?_
          refine w_x e23_45 (fun _ => rfl) ?_
          exact w_sub (A1 := [some (.ref a0), some (.long l_1), none, some (.long l_2), none, some (.int (vz (x5 + 1))), none, none, none]) (And.intro rfl (And.intro rfl (And.intro rfl (And.intro rfl trivial)))) ((ih.1) vh (x5 + 1) n hT (by omega) hc_0 (by omega) (by omega))
    ·
      intro vh x5 n hT hx5 hc_0 hi0 hN
      have hok : (0 ≤ θ.1 ∧ θ.1 ≤ 8) ∧ (0 ≤ θ.2.1 ∧ θ.2.1 ≤ 16) ∧ (-2147483648 ≤ θ.2.2.2.1 ∧ θ.2.2.2.1 < 2147483648) ∧ (0 ≤ θ.2.2.2.2 ∧ θ.2.2.2.2 ≤ 8) := hT.1
      refine w_ldI e23_48 (fun _ => rfl) rfl ?_
      refine w_ldA e23_50 (fun _ => rfl) rfl ?_
      refine w_get e23_51 hc_0 rfl ?_
      refine w_ic e23_54 (by omega) (by omega) (fun (h25 : n ≤ x5) => ?_) (fun (h25 : x5 < n) => ?_)
      ·
        refine w_kI e23_73 ?_
        refine w_stI (j := 6) (A1 := [some (.ref a0), some (.long l_1), none, some (.long l_2), none, some (.int (vz x5)), some (.int (vz 0)), none, none]) e23_74 (fun _ => rfl) (by decide) rfl ?_
        exact w_sub (A1 := [some (.ref a0), some (.long l_1), none, some (.long l_2), none, some (.int (vz x5)), some (.int (vz 0)), none, none]) (And.intro rfl (And.intro rfl (And.intro rfl (And.intro rfl (And.intro rfl trivial))))) ((ih.2.2) vh x5 0 n hT (by omega) (by omega) hc_0 (by omega) (by omega))
      ·
        refine w_ldA e23_57 (fun _ => rfl) rfl ?_
        refine w_get e23_58 hc_0 rfl ?_
        refine w_ldI e23_61 (fun _ => rfl) rfl ?_
        obtain ⟨f27, e26⟩ := tc_l60 hT (ty_p ha0).1
        refine w_lldO e23_63 e26 (by omega) (by omega) (by decide) (fun l28 => ?_)
        refine w_ldL e23_64 (fun _ => rfl) rfl ?_
        refine w_lcmp e23_65 (fun q29 (h30 : -1 ≤ q29 ∧ q29 ≤ 1) h31 h32 => ?_)
        refine w_if e23_66 (by omega) (fun (h33 : q29 ≠ 0) => ?_) (fun (h33 : q29 = 0) => ?_)
        ·
          refine w_kI e23_73 ?_
          refine w_stI (j := 6) (A1 := [some (.ref a0), some (.long l_1), none, some (.long l_2), none, some (.int (vz x5)), some (.int (vz 0)), none, none]) e23_74 (fun _ => rfl) (by decide) rfl ?_
          exact w_sub (A1 := [some (.ref a0), some (.long l_1), none, some (.long l_2), none, some (.int (vz x5)), some (.int (vz 0)), none, none]) (And.intro rfl (And.intro rfl (And.intro rfl (And.intro rfl (And.intro rfl trivial))))) ((ih.2.2) vh x5 0 n hT (by omega) (by omega) hc_0 (by omega) (by omega))
        ·
          refine w_kI e23_69 ?_
          refine w_x e23_70 (fun _ => rfl) ?_
          refine w_stI (j := 6) (A1 := [some (.ref a0), some (.long l_1), none, some (.long l_2), none, some (.int (vz x5)), some (.int (vz 1)), none, none]) e23_74 (fun _ => rfl) (by decide) rfl ?_
          exact w_sub (A1 := [some (.ref a0), some (.long l_1), none, some (.long l_2), none, some (.int (vz x5)), some (.int (vz 1)), none, none]) (And.intro rfl (And.intro rfl (And.intro rfl (And.intro rfl (And.intro rfl trivial))))) ((ih.2.2) vh x5 1 n hT (by omega) (by omega) hc_0 (by omega) (by omega))
    ·
      intro vh x5 x6 n hT hx5 hx6 hc_0 hi0 hN
      have hok : (0 ≤ θ.1 ∧ θ.1 ≤ 8) ∧ (0 ≤ θ.2.1 ∧ θ.2.1 ≤ 16) ∧ (-2147483648 ≤ θ.2.2.2.1 ∧ θ.2.2.2.1 < 2147483648) ∧ (0 ≤ θ.2.2.2.2 ∧ θ.2.2.2.2 ≤ 8) := hT.1
      refine w_ldI e23_76 (fun _ => rfl) rfl ?_
      refine w_if e23_78 (by omega) (fun (h34 : x6 = 0) => ?_) (fun (h34 : x6 ≠ 0) => ?_)
      ·
        refine w_ldL e23_93 (fun _ => rfl) rfl ?_
        refine w_stL (j := 7) (A1 := [some (.ref a0), some (.long l_1), none, some (.long l_2), none, some (.int (vz x5)), some (.int (vz x6)), some (.long l_2), none]) e23_94 (fun _ => rfl) (by decide) rfl ?_
        refine w_ldL e23_96 (fun _ => rfl) rfl ?_
        refine w_cs e23_98 (by decide) (Nat.le_of_ble_eq_true rfl) (Nat.le_of_ble_eq_true rfl) (Nat.le_of_ble_eq_true rfl) (by decide) (by decide) (c74 hT) (fun o35 v36 hq37 => ?_)
        obtain ⟨rfl, q39, h40, rfl⟩ := hq37
        refine w_if e23_101 (by omega) (fun (h41 : q39 = 0) => ?_) (fun (h41 : q39 ≠ 0) => ?_)
        ·
          refine w_kI e23_118 ?_
          exact w_rz e23_119 rfl (by omega) ⟨hT, 0, (by omega), rfl⟩
        ·
          refine w_ldI e23_104 (fun _ => rfl) rfl ?_
          refine w_if e23_106 (by omega) (fun (h42 : x6 ≠ 0) => ?_) (fun (h42 : x6 = 0) => ?_)
          ·
            refine w_ldI e23_120 (fun _ => rfl) rfl ?_
            refine w_if e23_122 (by omega) (fun (h43 : x6 ≠ 0) => ?_) (fun (h43 : x6 = 0) => ?_)
            ·
              refine w_ldA e23_139 (fun _ => rfl) rfl ?_
              refine w_get e23_140 hc_0 rfl ?_
              refine w_ldI e23_143 (fun _ => rfl) rfl ?_
              refine w_ldL e23_145 (fun _ => rfl) rfl ?_
              obtain ⟨f45, e44⟩ := tc_l60 hT (ty_p ha0).2
              refine w_lst e23_147 e44 (by omega) (by omega) (by decide) (fun v48 b46 h47 => ?_)
              have hT49 := ts_l60 hT (ty_p ha0).2 (wok_s hw0) b46 h47
              have e50 := (b46.2 a0 (by omega)).trans hc_0
              refine w_ldL e23_148 (fun _ => rfl) rfl ?_
              refine w_oL e23_150 (fun _ => rfl) (fun l51 => ?_)
              refine w_lcmp e23_151 (fun q52 (h53 : -1 ≤ q52 ∧ q52 ≤ 1) h54 h55 => ?_)
              refine w_if e23_152 (by omega) (fun (h56 : q52 ≠ 0) => ?_) (fun (h56 : q52 = 0) => ?_)
              ·
                refine w_kI e23_161 ?_
                exact w_rz e23_162 rfl (by omega) ⟨hT49, 1, (by omega), rfl⟩
              ·
                refine w_ldA e23_155 (fun _ => rfl) rfl ?_
                refine w_ldI e23_156 (fun _ => rfl) rfl ?_
                refine w_cv e23_158 (by decide) rfl e50 rfl (Nat.le_of_ble_eq_true rfl) (Nat.le_of_ble_eq_true rfl) (Nat.le_of_ble_eq_true rfl) (by decide) (by decide) (c25 hT49 ha0 hw0 (by omega) e50 (by omega)) (fun o57 v58 hq59 => ?_)
                obtain ⟨⟨hT60, e61⟩, rfl⟩ := hq59
                refine w_kI e23_161 ?_
                exact w_rz e23_162 rfl (by omega) ⟨hT60, 1, (by omega), rfl⟩
            ·
              refine w_ldA e23_125 (fun _ => rfl) rfl ?_
              refine w_ldI e23_126 (fun _ => rfl) rfl ?_
              refine w_cv e23_128 (by decide) rfl hc_0 rfl (Nat.le_of_ble_eq_true rfl) (Nat.le_of_ble_eq_true rfl) (Nat.le_of_ble_eq_true rfl) (by decide) (by decide) (c24 hT ha0 hw0 (by omega) hc_0 (by omega)) (fun o62 v63 hq64 => ?_)
              obtain ⟨⟨hT65, e66⟩, rfl⟩ := hq64
              refine w_ldA e23_131 (fun _ => rfl) rfl ?_
              refine w_get e23_132 e66 rfl ?_
              refine w_ldI e23_135 (fun _ => rfl) rfl ?_
              refine w_ldL e23_137 (fun _ => rfl) rfl ?_
              obtain ⟨f68, e67⟩ := tc_l60 hT65 (ty_p ha0).1
              refine w_lst e23_138 e67 (by omega) (by omega) (by decide) (fun v71 b69 h70 => ?_)
              have hT72 := ts_l60 hT65 (ty_p ha0).1 (wok_s hw0) b69 h70
              have e73 := (b69.2 a0 (by omega)).trans e66
              refine w_ldA e23_139 (fun _ => rfl) rfl ?_
              refine w_get e23_140 e73 rfl ?_
              refine w_ldI e23_143 (fun _ => rfl) rfl ?_
              refine w_ldL e23_145 (fun _ => rfl) rfl ?_
              obtain ⟨f75, e74⟩ := tc_l60 hT72 (ty_p ha0).2
              refine w_lst e23_147 e74 (by omega) (by omega) (by decide) (fun v78 b76 h77 => ?_)
              have hT79 := ts_l60 hT72 (ty_p ha0).2 (wok_s hw0) b76 h77
              have e80 := (b76.2 a0 (by omega)).trans e73
              refine w_ldL e23_148 (fun _ => rfl) rfl ?_
              refine w_oL e23_150 (fun _ => rfl) (fun l81 => ?_)
              refine w_lcmp e23_151 (fun q82 (h83 : -1 ≤ q82 ∧ q82 ≤ 1) h84 h85 => ?_)
              refine w_if e23_152 (by omega) (fun (h86 : q82 ≠ 0) => ?_) (fun (h86 : q82 = 0) => ?_)
              ·
                refine w_kI e23_161 ?_
                exact w_rz e23_162 rfl (by omega) ⟨hT79, 1, (by omega), rfl⟩
              ·
                refine w_ldA e23_155 (fun _ => rfl) rfl ?_
                refine w_ldI e23_156 (fun _ => rfl) rfl ?_
                refine w_cv e23_158 (by decide) rfl e80 rfl (Nat.le_of_ble_eq_true rfl) (Nat.le_of_ble_eq_true rfl) (Nat.le_of_ble_eq_true rfl) (by decide) (by decide) (c25 hT79 ha0 hw0 (by omega) e80 (by omega)) (fun o87 v88 hq89 => ?_)
                obtain ⟨⟨hT90, e91⟩, rfl⟩ := hq89
                refine w_kI e23_161 ?_
                exact w_rz e23_162 rfl (by omega) ⟨hT90, 1, (by omega), rfl⟩
          ·
            refine w_ldA e23_109 (fun _ => rfl) rfl ?_
            refine w_get e23_110 hc_0 rfl ?_
            refine w_kB e23_113 rfl ?_
            refine w_ic e23_115 (by omega) (by omega) (fun (h92 : n < 60) => ?_) (fun (h92 : 60 ≤ n) => ?_)
            ·
              refine w_ldI e23_120 (fun _ => rfl) rfl ?_
              refine w_if e23_122 (by omega) (fun (h93 : x6 ≠ 0) => ?_) (fun (h93 : x6 = 0) => ?_)
              ·
                refine w_ldA e23_139 (fun _ => rfl) rfl ?_
                refine w_get e23_140 hc_0 rfl ?_
                refine w_ldI e23_143 (fun _ => rfl) rfl ?_
                refine w_ldL e23_145 (fun _ => rfl) rfl ?_
                obtain ⟨f95, e94⟩ := tc_l60 hT (ty_p ha0).2
                refine w_lst e23_147 e94 (by omega) (by omega) (by decide) (fun v98 b96 h97 => ?_)
                have hT99 := ts_l60 hT (ty_p ha0).2 (wok_s hw0) b96 h97
                have e100 := (b96.2 a0 (by omega)).trans hc_0
                refine w_ldL e23_148 (fun _ => rfl) rfl ?_
                refine w_oL e23_150 (fun _ => rfl) (fun l101 => ?_)
                refine w_lcmp e23_151 (fun q102 (h103 : -1 ≤ q102 ∧ q102 ≤ 1) h104 h105 => ?_)
                refine w_if e23_152 (by omega) (fun (h106 : q102 ≠ 0) => ?_) (fun (h106 : q102 = 0) => ?_)
                ·
                  refine w_kI e23_161 ?_
                  exact w_rz e23_162 rfl (by omega) ⟨hT99, 1, (by omega), rfl⟩
                ·
                  refine w_ldA e23_155 (fun _ => rfl) rfl ?_
                  refine w_ldI e23_156 (fun _ => rfl) rfl ?_
                  refine w_cv e23_158 (by decide) rfl e100 rfl (Nat.le_of_ble_eq_true rfl) (Nat.le_of_ble_eq_true rfl) (Nat.le_of_ble_eq_true rfl) (by decide) (by decide) (c25 hT99 ha0 hw0 (by omega) e100 (by omega)) (fun o107 v108 hq109 => ?_)
                  obtain ⟨⟨hT110, e111⟩, rfl⟩ := hq109
                  refine w_kI e23_161 ?_
                  exact w_rz e23_162 rfl (by omega) ⟨hT110, 1, (by omega), rfl⟩
              ·
                refine w_ldA e23_125 (fun _ => rfl) rfl ?_
                refine w_ldI e23_126 (fun _ => rfl) rfl ?_
                refine w_cv e23_128 (by decide) rfl hc_0 rfl (Nat.le_of_ble_eq_true rfl) (Nat.le_of_ble_eq_true rfl) (Nat.le_of_ble_eq_true rfl) (by decide) (by decide) (c24 hT ha0 hw0 (by omega) hc_0 (by omega)) (fun o112 v113 hq114 => ?_)
                obtain ⟨⟨hT115, e116⟩, rfl⟩ := hq114
                refine w_ldA e23_131 (fun _ => rfl) rfl ?_
                refine w_get e23_132 e116 rfl ?_
                refine w_ldI e23_135 (fun _ => rfl) rfl ?_
                refine w_ldL e23_137 (fun _ => rfl) rfl ?_
                obtain ⟨f118, e117⟩ := tc_l60 hT115 (ty_p ha0).1
                refine w_lst e23_138 e117 (by omega) (by omega) (by decide) (fun v121 b119 h120 => ?_)
                have hT122 := ts_l60 hT115 (ty_p ha0).1 (wok_s hw0) b119 h120
                have e123 := (b119.2 a0 (by omega)).trans e116
                refine w_ldA e23_139 (fun _ => rfl) rfl ?_
                refine w_get e23_140 e123 rfl ?_
                refine w_ldI e23_143 (fun _ => rfl) rfl ?_
                refine w_ldL e23_145 (fun _ => rfl) rfl ?_
                obtain ⟨f125, e124⟩ := tc_l60 hT122 (ty_p ha0).2
                refine w_lst e23_147 e124 (by omega) (by omega) (by decide) (fun v128 b126 h127 => ?_)
                have hT129 := ts_l60 hT122 (ty_p ha0).2 (wok_s hw0) b126 h127
                have e130 := (b126.2 a0 (by omega)).trans e123
                refine w_ldL e23_148 (fun _ => rfl) rfl ?_
                refine w_oL e23_150 (fun _ => rfl) (fun l131 => ?_)
                refine w_lcmp e23_151 (fun q132 (h133 : -1 ≤ q132 ∧ q132 ≤ 1) h134 h135 => ?_)
                refine w_if e23_152 (by omega) (fun (h136 : q132 ≠ 0) => ?_) (fun (h136 : q132 = 0) => ?_)
                ·
                  refine w_kI e23_161 ?_
                  exact w_rz e23_162 rfl (by omega) ⟨hT129, 1, (by omega), rfl⟩
                ·
                  refine w_ldA e23_155 (fun _ => rfl) rfl ?_
                  refine w_ldI e23_156 (fun _ => rfl) rfl ?_
                  refine w_cv e23_158 (by decide) rfl e130 rfl (Nat.le_of_ble_eq_true rfl) (Nat.le_of_ble_eq_true rfl) (Nat.le_of_ble_eq_true rfl) (by decide) (by decide) (c25 hT129 ha0 hw0 (by omega) e130 (by omega)) (fun o137 v138 hq139 => ?_)
                  obtain ⟨⟨hT140, e141⟩, rfl⟩ := hq139
                  refine w_kI e23_161 ?_
                  exact w_rz e23_162 rfl (by omega) ⟨hT140, 1, (by omega), rfl⟩
            ·
              refine w_kI e23_118 ?_
              exact w_rz e23_119 rfl (by omega) ⟨hT, 0, (by omega), rfl⟩
      ·
        refine w_ldA e23_81 (fun _ => rfl) rfl ?_
        refine w_get e23_82 hc_0 rfl ?_
        refine w_ldI e23_85 (fun _ => rfl) rfl ?_
        obtain ⟨f143, e142⟩ := tc_l60 hT (ty_p ha0).2
        refine w_lldO e23_87 e142 (by omega) (by omega) (by decide) (fun l144 => ?_)
        refine w_ldL e23_88 (fun _ => rfl) rfl ?_
        refine w_oL e23_89 (fun _ => rfl) (fun l145 => ?_)
        refine w_x e23_90 (fun _ => rfl) ?_
        refine w_stL (j := 7) (A1 := [some (.ref a0), some (.long l_1), none, some (.long l_2), none, some (.int (vz x5)), some (.int (vz x6)), some (.long l145), none]) e23_94 (fun _ => rfl) (by decide) rfl ?_
        refine w_ldL e23_96 (fun _ => rfl) rfl ?_
        refine w_cs e23_98 (by decide) (Nat.le_of_ble_eq_true rfl) (Nat.le_of_ble_eq_true rfl) (Nat.le_of_ble_eq_true rfl) (by decide) (by decide) (c74 hT) (fun o146 v147 hq148 => ?_)
        obtain ⟨rfl, q150, h151, rfl⟩ := hq148
        refine w_if e23_101 (by omega) (fun (h152 : q150 = 0) => ?_) (fun (h152 : q150 ≠ 0) => ?_)
        ·
          refine w_kI e23_118 ?_
          exact w_rz e23_119 rfl (by omega) ⟨hT, 0, (by omega), rfl⟩
        ·
          refine w_ldI e23_104 (fun _ => rfl) rfl ?_
          refine w_if e23_106 (by omega) (fun (h153 : x6 ≠ 0) => ?_) (fun (h153 : x6 = 0) => ?_)
          ·
            refine w_ldI e23_120 (fun _ => rfl) rfl ?_
            refine w_if e23_122 (by omega) (fun (h154 : x6 ≠ 0) => ?_) (fun (h154 : x6 = 0) => ?_)
            ·
              refine w_ldA e23_139 (fun _ => rfl) rfl ?_
              refine w_get e23_140 hc_0 rfl ?_
              refine w_ldI e23_143 (fun _ => rfl) rfl ?_
              refine w_ldL e23_145 (fun _ => rfl) rfl ?_
              refine w_lst e23_147 e142 (by omega) (by omega) (by decide) (fun v157 b155 h156 => ?_)
              have hT158 := ts_l60 hT (ty_p ha0).2 (wok_s hw0) b155 h156
              have e159 := (b155.2 a0 (by omega)).trans hc_0
              refine w_ldL e23_148 (fun _ => rfl) rfl ?_
              refine w_oL e23_150 (fun _ => rfl) (fun l160 => ?_)
              refine w_lcmp e23_151 (fun q161 (h162 : -1 ≤ q161 ∧ q161 ≤ 1) h163 h164 => ?_)
              refine w_if e23_152 (by omega) (fun (h165 : q161 ≠ 0) => ?_) (fun (h165 : q161 = 0) => ?_)
              ·
                refine w_kI e23_161 ?_
                exact w_rz e23_162 rfl (by omega) ⟨hT158, 1, (by omega), rfl⟩
              ·
                refine w_ldA e23_155 (fun _ => rfl) rfl ?_
                refine w_ldI e23_156 (fun _ => rfl) rfl ?_
                refine w_cv e23_158 (by decide) rfl e159 rfl (Nat.le_of_ble_eq_true rfl) (Nat.le_of_ble_eq_true rfl) (Nat.le_of_ble_eq_true rfl) (by decide) (by decide) (c25 hT158 ha0 hw0 (by omega) e159 (by omega)) (fun o166 v167 hq168 => ?_)
                obtain ⟨⟨hT169, e170⟩, rfl⟩ := hq168
                refine w_kI e23_161 ?_
                exact w_rz e23_162 rfl (by omega) ⟨hT169, 1, (by omega), rfl⟩
            ·
              refine w_ldA e23_125 (fun _ => rfl) rfl ?_
              refine w_ldI e23_126 (fun _ => rfl) rfl ?_
              refine w_cv e23_128 (by decide) rfl hc_0 rfl (Nat.le_of_ble_eq_true rfl) (Nat.le_of_ble_eq_true rfl) (Nat.le_of_ble_eq_true rfl) (by decide) (by decide) (c24 hT ha0 hw0 (by omega) hc_0 (by omega)) (fun o171 v172 hq173 => ?_)
              obtain ⟨⟨hT174, e175⟩, rfl⟩ := hq173
              refine w_ldA e23_131 (fun _ => rfl) rfl ?_
              refine w_get e23_132 e175 rfl ?_
              refine w_ldI e23_135 (fun _ => rfl) rfl ?_
              refine w_ldL e23_137 (fun _ => rfl) rfl ?_
              obtain ⟨f177, e176⟩ := tc_l60 hT174 (ty_p ha0).1
              refine w_lst e23_138 e176 (by omega) (by omega) (by decide) (fun v180 b178 h179 => ?_)
              have hT181 := ts_l60 hT174 (ty_p ha0).1 (wok_s hw0) b178 h179
              have e182 := (b178.2 a0 (by omega)).trans e175
              refine w_ldA e23_139 (fun _ => rfl) rfl ?_
              refine w_get e23_140 e182 rfl ?_
              refine w_ldI e23_143 (fun _ => rfl) rfl ?_
              refine w_ldL e23_145 (fun _ => rfl) rfl ?_
              obtain ⟨f184, e183⟩ := tc_l60 hT181 (ty_p ha0).2
              refine w_lst e23_147 e183 (by omega) (by omega) (by decide) (fun v187 b185 h186 => ?_)
              have hT188 := ts_l60 hT181 (ty_p ha0).2 (wok_s hw0) b185 h186
              have e189 := (b185.2 a0 (by omega)).trans e182
              refine w_ldL e23_148 (fun _ => rfl) rfl ?_
              refine w_oL e23_150 (fun _ => rfl) (fun l190 => ?_)
              refine w_lcmp e23_151 (fun q191 (h192 : -1 ≤ q191 ∧ q191 ≤ 1) h193 h194 => ?_)
              refine w_if e23_152 (by omega) (fun (h195 : q191 ≠ 0) => ?_) (fun (h195 : q191 = 0) => ?_)
              ·
                refine w_kI e23_161 ?_
                exact w_rz e23_162 rfl (by omega) ⟨hT188, 1, (by omega), rfl⟩
              ·
                refine w_ldA e23_155 (fun _ => rfl) rfl ?_
                refine w_ldI e23_156 (fun _ => rfl) rfl ?_
                refine w_cv e23_158 (by decide) rfl e189 rfl (Nat.le_of_ble_eq_true rfl) (Nat.le_of_ble_eq_true rfl) (Nat.le_of_ble_eq_true rfl) (by decide) (by decide) (c25 hT188 ha0 hw0 (by omega) e189 (by omega)) (fun o196 v197 hq198 => ?_)
                obtain ⟨⟨hT199, e200⟩, rfl⟩ := hq198
                refine w_kI e23_161 ?_
                exact w_rz e23_162 rfl (by omega) ⟨hT199, 1, (by omega), rfl⟩
          ·
            refine w_ldA e23_109 (fun _ => rfl) rfl ?_
            refine w_get e23_110 hc_0 rfl ?_
            refine w_kB e23_113 rfl ?_
            refine w_ic e23_115 (by omega) (by omega) (fun (h201 : n < 60) => ?_) (fun (h201 : 60 ≤ n) => ?_)
            ·
              refine w_ldI e23_120 (fun _ => rfl) rfl ?_
              refine w_if e23_122 (by omega) (fun (h202 : x6 ≠ 0) => ?_) (fun (h202 : x6 = 0) => ?_)
              ·
                refine w_ldA e23_139 (fun _ => rfl) rfl ?_
                refine w_get e23_140 hc_0 rfl ?_
                refine w_ldI e23_143 (fun _ => rfl) rfl ?_
                refine w_ldL e23_145 (fun _ => rfl) rfl ?_
                refine w_lst e23_147 e142 (by omega) (by omega) (by decide) (fun v205 b203 h204 => ?_)
                have hT206 := ts_l60 hT (ty_p ha0).2 (wok_s hw0) b203 h204
                have e207 := (b203.2 a0 (by omega)).trans hc_0
                refine w_ldL e23_148 (fun _ => rfl) rfl ?_
                refine w_oL e23_150 (fun _ => rfl) (fun l208 => ?_)
                refine w_lcmp e23_151 (fun q209 (h210 : -1 ≤ q209 ∧ q209 ≤ 1) h211 h212 => ?_)
                refine w_if e23_152 (by omega) (fun (h213 : q209 ≠ 0) => ?_) (fun (h213 : q209 = 0) => ?_)
                ·
                  refine w_kI e23_161 ?_
                  exact w_rz e23_162 rfl (by omega) ⟨hT206, 1, (by omega), rfl⟩
                ·
                  refine w_ldA e23_155 (fun _ => rfl) rfl ?_
                  refine w_ldI e23_156 (fun _ => rfl) rfl ?_
                  refine w_cv e23_158 (by decide) rfl e207 rfl (Nat.le_of_ble_eq_true rfl) (Nat.le_of_ble_eq_true rfl) (Nat.le_of_ble_eq_true rfl) (by decide) (by decide) (c25 hT206 ha0 hw0 (by omega) e207 (by omega)) (fun o214 v215 hq216 => ?_)
                  obtain ⟨⟨hT217, e218⟩, rfl⟩ := hq216
                  refine w_kI e23_161 ?_
                  exact w_rz e23_162 rfl (by omega) ⟨hT217, 1, (by omega), rfl⟩
              ·
                refine w_ldA e23_125 (fun _ => rfl) rfl ?_
                refine w_ldI e23_126 (fun _ => rfl) rfl ?_
                refine w_cv e23_128 (by decide) rfl hc_0 rfl (Nat.le_of_ble_eq_true rfl) (Nat.le_of_ble_eq_true rfl) (Nat.le_of_ble_eq_true rfl) (by decide) (by decide) (c24 hT ha0 hw0 (by omega) hc_0 (by omega)) (fun o219 v220 hq221 => ?_)
                obtain ⟨⟨hT222, e223⟩, rfl⟩ := hq221
                refine w_ldA e23_131 (fun _ => rfl) rfl ?_
                refine w_get e23_132 e223 rfl ?_
                refine w_ldI e23_135 (fun _ => rfl) rfl ?_
                refine w_ldL e23_137 (fun _ => rfl) rfl ?_
                obtain ⟨f225, e224⟩ := tc_l60 hT222 (ty_p ha0).1
                refine w_lst e23_138 e224 (by omega) (by omega) (by decide) (fun v228 b226 h227 => ?_)
                have hT229 := ts_l60 hT222 (ty_p ha0).1 (wok_s hw0) b226 h227
                have e230 := (b226.2 a0 (by omega)).trans e223
                refine w_ldA e23_139 (fun _ => rfl) rfl ?_
                refine w_get e23_140 e230 rfl ?_
                refine w_ldI e23_143 (fun _ => rfl) rfl ?_
                refine w_ldL e23_145 (fun _ => rfl) rfl ?_
                obtain ⟨f232, e231⟩ := tc_l60 hT229 (ty_p ha0).2
                refine w_lst e23_147 e231 (by omega) (by omega) (by decide) (fun v235 b233 h234 => ?_)
                have hT236 := ts_l60 hT229 (ty_p ha0).2 (wok_s hw0) b233 h234
                have e237 := (b233.2 a0 (by omega)).trans e230
                refine w_ldL e23_148 (fun _ => rfl) rfl ?_
                refine w_oL e23_150 (fun _ => rfl) (fun l238 => ?_)
                refine w_lcmp e23_151 (fun q239 (h240 : -1 ≤ q239 ∧ q239 ≤ 1) h241 h242 => ?_)
                refine w_if e23_152 (by omega) (fun (h243 : q239 ≠ 0) => ?_) (fun (h243 : q239 = 0) => ?_)
                ·
                  refine w_kI e23_161 ?_
                  exact w_rz e23_162 rfl (by omega) ⟨hT236, 1, (by omega), rfl⟩
                ·
                  refine w_ldA e23_155 (fun _ => rfl) rfl ?_
                  refine w_ldI e23_156 (fun _ => rfl) rfl ?_
                  refine w_cv e23_158 (by decide) rfl e237 rfl (Nat.le_of_ble_eq_true rfl) (Nat.le_of_ble_eq_true rfl) (Nat.le_of_ble_eq_true rfl) (by decide) (by decide) (c25 hT236 ha0 hw0 (by omega) e237 (by omega)) (fun o244 v245 hq246 => ?_)
                  obtain ⟨⟨hT247, e248⟩, rfl⟩ := hq246
                  refine w_kI e23_161 ?_
                  exact w_rz e23_162 rfl (by omega) ⟨hT247, 1, (by omega), rfl⟩
            ·
              refine w_kI e23_118 ?_
              exact w_rz e23_119 rfl (by omega) ⟨hT, 0, (by omega), rfl⟩
set_option maxRecDepth 100000 in
set_option maxHeartbeats 4000000 in
theorem c23 {θ : tc_S} {v0 : (Bool × Bool) × vm_H} {vh : vm_H} (hT : tc θ v0 vh) {a0 : Nat} (ha0 : ty a0 = 1) (hw0 : wok v0 a0) {l_1 : Int64} {l_2 : Int64} : vm_Rp 2 51 23 [.ref a0, .long l_1, .long l_2] vh (fun r v1 => (tc θ v0 v1) ∧ ∃ q : Int, ((0 ≤ q ∧ q ≤ 1)) ∧ r = some (.int (vz q))) := by
  have hok : (0 ≤ θ.1 ∧ θ.1 ≤ 8) ∧ (0 ≤ θ.2.1 ∧ θ.2.1 ≤ 16) ∧ (-2147483648 ≤ θ.2.2.2.1 ∧ θ.2.2.2.1 < 2147483648) ∧ (0 ≤ θ.2.2.2.2 ∧ θ.2.2.2.2 ≤ 8) := hT.1
  refine w_in (m := 4) ?_
  show vm_Wp _ _ _ 0 [some (.ref a0), some (.long l_1), none, some (.long l_2), none, none, none, none, none] [] _ _
  refine w_ldL e23_0 (fun _ => rfl) rfl ?_
  refine w_oL e23_1 (fun _ => rfl) (fun l1 => ?_)
  refine w_lcmp e23_4 (fun q2 (h3 : -1 ≤ q2 ∧ q2 ≤ 1) h4 h5 => ?_)
  refine w_if e23_5 (by omega) (fun (h6 : q2 < 0) => ?_) (fun (h6 : 0 ≤ q2) => ?_)
  ·
    refine w_kI e23_16 ?_
    exact w_rz e23_17 rfl (by omega) ⟨hT, 0, (by omega), rfl⟩
  ·
    refine w_ldL e23_8 (fun _ => rfl) rfl ?_
    refine w_oL e23_9 (fun _ => rfl) (fun l7 => ?_)
    refine w_lcmp e23_12 (fun q8 (h9 : -1 ≤ q8 ∧ q8 ≤ 1) h10 h11 => ?_)
    refine w_if e23_13 (by omega) (fun (h12 : q8 ≤ 0) => ?_) (fun (h12 : 0 < q8) => ?_)
    ·
      refine w_kI e23_18 ?_
      refine w_stI (j := 5) (A1 := [some (.ref a0), some (.long l_1), none, some (.long l_2), none, some (.int (vz 0)), none, none, none]) e23_19 (fun _ => rfl) (by decide) rfl ?_
      obtain ⟨c14, hc15, e13⟩ := tc_poly hT ha0
      exact w_sub (A1 := [some (.ref a0), some (.long l_1), none, some (.long l_2), none, some (.int (vz 0)), none, none, none]) (And.intro rfl (And.intro rfl (And.intro rfl (And.intro rfl trivial)))) (((c23_L (θ := θ) (a0 := a0) (l_1 := l_1) (l_2 := l_2) (v0 := v0) ha0 hw0 _).1) vh 0 c14 hT (by omega) e13 (by omega) (Nat.lt_succ_self _))
    ·
      refine w_kI e23_16 ?_
      exact w_rz e23_17 rfl (by omega) ⟨hT, 0, (by omega), rfl⟩
set_option maxRecDepth 100000 in
set_option maxHeartbeats 4000000 in
theorem c20_L {θ : tc_S} {v0 : (Bool × Bool) × vm_H} {a0 : Nat} (ha0 : ty a0 = 1) (hw0 : wok v0 a0) {a1 : Nat} (ha1 : ty a1 = 3) : ∀ N : Nat, (∀ (vh : vm_H) (z2 : Nat) (y3 : Int64) (x5 : Int) (n : Int), (tc θ v0 vh) → (ty z2 = 1) → (0 ≤ x5 ∧ x5 ≤ 60) → (vm_at vh a0 = some (.inr (1, [.ref (a0 + 1), .ref (a0 + 2), .int (vz n)]))) → (0 ≤ n ∧ n ≤ x5) → ((60 - x5 : Int).toNat < N) → vm_Wp 1 22 20 27 [some (.ref a0), some (.ref a1), some (.ref z2), some (.long y3), none, some (.int (vz x5))] [] vh (vq_P 20 (fun r v1 => (tc θ v0 v1) ∧ r = none))) := by
  intro N
  induction N with
  | zero => exact (by intros; omega)
  | succ N ih =>
    ·
      intro vh z2 y3 x5 n hT hz2 hx5 hc_0 hi0 hN
      have hok : (0 ≤ θ.1 ∧ θ.1 ≤ 8) ∧ (0 ≤ θ.2.1 ∧ θ.2.1 ≤ 16) ∧ (-2147483648 ≤ θ.2.2.2.1 ∧ θ.2.2.2.1 < 2147483648) ∧ (0 ≤ θ.2.2.2.2 ∧ θ.2.2.2.2 ≤ 8) := hT.1
      refine w_ldI e20_27 (fun _ => rfl) rfl ?_
      refine w_ldA e20_29 (fun _ => rfl) rfl ?_
      obtain ⟨c17, hc18, e16⟩ := tc_poly hT hz2
      refine w_get e20_30 e16 rfl ?_
      refine w_ic e20_33 (by omega) (by omega) (fun (h19 : c17 ≤ x5) => ?_) (fun (h19 : x5 < c17) => ?_)
      ·
        exact w_rv e20_107 rfl ⟨hT, rfl⟩
      ·
        refine w_ldA e20_36 (fun _ => rfl) rfl ?_
        refine w_get e20_37 e16 rfl ?_
        refine w_ldI e20_40 (fun _ => rfl) rfl ?_
        obtain ⟨f21, e20⟩ := tc_l60 hT (ty_p hz2).1
        refine w_lldO e20_42 e20 (by omega) (by omega) (by decide) (fun l22 => ?_)
        refine w_ldA e20_43 (fun _ => rfl) rfl ?_
        obtain ⟨p24, d25, hp26, hd27, e23⟩ := tc_row hT ha1
        refine w_get e20_44 e23 rfl ?_
        refine w_cs e20_47 (by decide) (Nat.le_of_ble_eq_true rfl) (Nat.le_of_ble_eq_true rfl) (Nat.le_of_ble_eq_true rfl) (by decide) (by decide) (c73 hT hp26) (fun o28 v29 hq30 => ?_)
        obtain ⟨rfl, q32, h33, rfl⟩ := hq30
        refine w_ldA e20_50 (fun _ => rfl) rfl ?_
        refine w_get e20_51 e23 rfl ?_
        refine w_ic e20_54 h33 hd27 (fun (h34 : q32 ≠ d25) => ?_) (fun (h34 : q32 = d25) => ?_)
        ·
          refine w_iinc (A1 := [some (.ref a0), some (.ref a1), some (.ref z2), some (.long y3), none, some (.int (vz (x5 + 1)))]) e20_101 rfl (by decide) rfl ?_
          refine w_x e20_104 (fun _ => rfl) ?_
          exact w_sub (A1 := [some (.ref a0), some (.ref a1), some (.ref z2), some (.long y3), none, some (.int (vz (x5 + 1)))]) (And.intro rfl (And.intro rfl (And.intro rfl (And.intro rfl (And.intro rfl trivial))))) ((ih) vh z2 y3 (x5 + 1) n hT hz2 (by omega) hc_0 (by omega) (by omega))
        ·
          refine w_ldA e20_57 (fun _ => rfl) rfl ?_
          refine w_get e20_58 hc_0 rfl ?_
          refine w_ldA e20_61 (fun _ => rfl) rfl ?_
          refine w_get e20_62 hc_0 rfl ?_
          refine w_ldA e20_65 (fun _ => rfl) rfl ?_
          refine w_get e20_66 e16 rfl ?_
          refine w_ldI e20_69 (fun _ => rfl) rfl ?_
          refine w_lldO e20_71 e20 (by omega) (by omega) (by decide) (fun l35 => ?_)
          refine w_ldL e20_72 (fun _ => rfl) rfl ?_
          refine w_oL e20_73 (fun _ => rfl) (fun l36 => ?_)
          obtain ⟨f38, e37⟩ := tc_l60 hT (ty_p ha0).1
          refine w_lst e20_74 e37 (by omega) (by omega) (by decide) (fun v41 b39 h40 => ?_)
          have hT42 := ts_l60 hT (ty_p ha0).1 (wok_s hw0) b39 h40
          have e43 := (b39.2 a0 (by omega)).trans hc_0
          have e44 := (b39.2 z2 (ty_ne hz2 (ty_p ha0).1 (by decide))).trans e16
          have e45 := (b39.2 a1 (ty_ne ha1 (ty_p ha0).1 (by decide))).trans e23
          refine w_ldA e20_75 (fun _ => rfl) rfl ?_
          refine w_get e20_76 e43 rfl ?_
          refine w_ldA e20_79 (fun _ => rfl) rfl ?_
          refine w_get e20_80 e43 rfl ?_
          refine w_ldA e20_83 (fun _ => rfl) rfl ?_
          refine w_get e20_84 e44 rfl ?_
          refine w_ldI e20_87 (fun _ => rfl) rfl ?_
          obtain ⟨f47, e46⟩ := tc_l60 hT42 (ty_p hz2).2
          refine w_lldO e20_89 e46 (by omega) (by omega) (by decide) (fun l48 => ?_)
          obtain ⟨f50, e49⟩ := tc_l60 hT42 (ty_p ha0).2
          refine w_lst e20_90 e49 (by omega) (by omega) (by decide) (fun v53 b51 h52 => ?_)
          have hT54 := ts_l60 hT42 (ty_p ha0).2 (wok_s hw0) b51 h52
          have e55 := (b51.2 a0 (by omega)).trans e43
          have e56 := (b51.2 z2 (ty_ne hz2 (ty_p ha0).2 (by decide))).trans e44
          have e57 := (b51.2 a1 (ty_ne ha1 (ty_p ha0).2 (by decide))).trans e45
          refine w_ldA e20_91 (fun _ => rfl) rfl ?_
          refine w_x e20_92 (fun _ => rfl) ?_
          refine w_get e20_93 e55 rfl ?_
          refine w_kI e20_96 ?_
          refine w_iadd e20_97 ?_
          refine w_put e20_98 e55 (Nat.le_of_ble_eq_true rfl) rfl (fun v60 b58 h59 => ?_)
          have h59 : vm_at v60 a0 = some (.inr (1, [.ref (a0 + 1), .ref (a0 + 2), .int (vz (n + 1))])) := h59
          have hT61 := ts_poly hT54 ha0 (by omega) hw0 b58 h59
          have e62 := (b58.2 a1 (ty_ne ha1 ha0 (by decide))).trans e57
          refine w_iinc (A1 := [some (.ref a0), some (.ref a1), some (.ref z2), some (.long y3), none, some (.int (vz (x5 + 1)))]) e20_101 rfl (by decide) rfl ?_
          refine w_x e20_104 (fun _ => rfl) ?_
          exact w_sub (A1 := [some (.ref a0), some (.ref a1), some (.ref z2), some (.long y3), none, some (.int (vz (x5 + 1)))]) (And.intro rfl (And.intro rfl (And.intro rfl (And.intro rfl (And.intro rfl trivial))))) ((ih) v60 z2 y3 (x5 + 1) (n + 1) hT61 hz2 (by omega) h59 (by omega) (by omega))
set_option maxRecDepth 100000 in
set_option maxHeartbeats 4000000 in
theorem c20 {θ : tc_S} {v0 : (Bool × Bool) × vm_H} {vh : vm_H} (hT : tc θ v0 vh) {a0 : Nat} (ha0 : ty a0 = 1) (hw0 : wok v0 a0) {a1 : Nat} (ha1 : ty a1 = 3) : vm_Rp 1 22 20 [.ref a0, .ref a1] vh (fun r v1 => (tc θ v0 v1) ∧ r = none) := by
  have hok : (0 ≤ θ.1 ∧ θ.1 ≤ 8) ∧ (0 ≤ θ.2.1 ∧ θ.2.1 ≤ 16) ∧ (-2147483648 ≤ θ.2.2.2.1 ∧ θ.2.2.2.1 < 2147483648) ∧ (0 ≤ θ.2.2.2.2 ∧ θ.2.2.2.2 ≤ 8) := hT.1
  refine w_in (m := 4) ?_
  show vm_Wp _ _ _ 0 [some (.ref a0), some (.ref a1), none, none, none, none] [] _ _
  refine w_ldA e20_0 (fun _ => rfl) rfl ?_
  obtain ⟨p2, d3, hp4, hd5, e1⟩ := tc_row hT ha1
  refine w_get e20_1 e1 rfl ?_
  refine w_stA (j := 2) (A1 := [some (.ref a0), some (.ref a1), some (.ref (a1 + 1)), none, none, none]) e20_4 (fun _ => rfl) (by decide) rfl ?_
  refine w_ldA e20_5 (fun _ => rfl) rfl ?_
  refine w_get e20_6 e1 rfl ?_
  refine w_oL e20_9 (fun _ => rfl) (fun l6 => ?_)
  refine w_kB e20_10 rfl ?_
  refine w_ldA e20_12 (fun _ => rfl) rfl ?_
  refine w_get e20_13 e1 rfl ?_
  refine w_imul e20_16 ?_
  refine w_oL e20_17 (fun _ => rfl) (fun l7 => ?_)
  refine w_stL (j := 3) (A1 := [some (.ref a0), some (.ref a1), some (.ref (a1 + 1)), some (.long l7), none, none]) e20_18 (fun _ => rfl) (by decide) rfl ?_
  refine w_ldA e20_19 (fun _ => rfl) rfl ?_
  refine w_kI e20_20 ?_
  obtain ⟨c9, hc10, e8⟩ := tc_poly hT ha0
  refine w_put e20_21 e8 (Nat.le_of_ble_eq_true rfl) rfl (fun v13 b11 h12 => ?_)
  have h12 : vm_at v13 a0 = some (.inr (1, [.ref (a0 + 1), .ref (a0 + 2), .int (vz 0)])) := h12
  have hT14 := ts_poly hT ha0 (by omega) hw0 b11 h12
  have e15 := (b11.2 a1 (ty_ne ha1 ha0 (by decide))).trans e1
  refine w_kI e20_24 ?_
  refine w_stI (j := 5) (A1 := [some (.ref a0), some (.ref a1), some (.ref (a1 + 1)), some (.long l7), none, some (.int (vz 0))]) e20_25 (fun _ => rfl) (by decide) rfl ?_
  exact w_sub (A1 := [some (.ref a0), some (.ref a1), some (.ref (a1 + 1)), some (.long l7), none, some (.int (vz 0))]) (And.intro rfl (And.intro rfl (And.intro rfl (And.intro rfl (And.intro rfl trivial))))) (((c20_L (θ := θ) (a0 := a0) (a1 := a1) (v0 := v0) ha0 hw0 ha1 _)) v13 (a1 + 1) l7 0 0 hT14 (ty_r ha1) (by omega) h12 (by omega) (Nat.lt_succ_self _))
set_option maxRecDepth 100000 in
set_option maxHeartbeats 4000000 in
theorem c29 {θ : tc_S} {v0 : (Bool × Bool) × vm_H} {vh : vm_H} (hT : tc θ v0 vh) {a0 : Nat} (ha0 : ty a0 = 3) {a1 : Nat} (ha1 : ty a1 = 1) : vm_Rp 3 75 29 [.ref a0, .ref a1, .ref 2] vh (fun r v1 => (tc θ v0 v1) ∧ r = none) := by
  have hok : (0 ≤ θ.1 ∧ θ.1 ≤ 8) ∧ (0 ≤ θ.2.1 ∧ θ.2.1 ≤ 16) ∧ (-2147483648 ≤ θ.2.2.2.1 ∧ θ.2.2.2.1 < 2147483648) ∧ (0 ≤ θ.2.2.2.2 ∧ θ.2.2.2.2 ≤ 8) := hT.1
  refine w_in (m := 0) ?_
  show vm_Wp _ _ _ 0 [some (.ref a0), some (.ref a1), some (.ref 2)] [] _ _
  refine w_ldA e29_0 (fun _ => rfl) rfl ?_
  obtain ⟨p2, d3, hp4, hd5, e1⟩ := tc_row hT ha0
  refine w_get e29_1 e1 rfl ?_
  refine w_ldA e29_4 (fun _ => rfl) rfl ?_
  obtain ⟨c7, hc8, e6⟩ := tc_poly hT (ty_r ha0)
  refine w_cv e29_5 (by decide) rfl e6 rfl (Nat.le_of_ble_eq_true rfl) (Nat.le_of_ble_eq_true rfl) (Nat.le_of_ble_eq_true rfl) (by decide) (by decide) (c19 hT (ty_r ha0) (wok_r ha0) ha1) (fun o9 v10 hq11 => ?_)
  obtain ⟨hT12, rfl⟩ := hq11
  refine w_ldA e29_8 (fun _ => rfl) rfl ?_
  obtain ⟨p14, d15, hp16, hd17, e13⟩ := tc_row hT12 ha0
  refine w_get e29_9 e13 rfl ?_
  obtain ⟨c19, hc20, e18⟩ := tc_poly hT12 (ty_r ha0)
  refine w_cv e29_12 (by decide) rfl e18 rfl (Nat.le_of_ble_eq_true rfl) (Nat.le_of_ble_eq_true rfl) (Nat.le_of_ble_eq_true rfl) (by decide) (by decide) (c26 hT12 (ty_r ha0) (wok_r ha0)) (fun o21 v22 hq23 => ?_)
  obtain ⟨hT24, rfl⟩ := hq23
  refine w_ldA e29_15 (fun _ => rfl) rfl ?_
  refine w_ldA e29_16 (fun _ => rfl) rfl ?_
  refine w_ldA e29_17 (fun _ => rfl) rfl ?_
  obtain ⟨p26, d27, hp28, hd29, e25⟩ := tc_row hT24 ha0
  refine w_get e29_18 e25 rfl ?_
  obtain ⟨hn31, e30⟩ := tc_places hT24
  refine w_cv e29_21 (by decide) rfl e30 rfl (Nat.le_of_ble_eq_true rfl) (Nat.le_of_ble_eq_true rfl) (Nat.le_of_ble_eq_true rfl) (by decide) (by decide) (c12 hT24 (ty_r ha0)) (fun o32 v33 hq34 => ?_)
  obtain ⟨rfl, q36, h37, rfl⟩ := hq34
  refine w_put e29_24 e25 (Nat.le_of_ble_eq_true rfl) rfl (fun v40 b38 h39 => ?_)
  have h39 : vm_at v40 a0 = some (.inr (2, [.ref (a0 + 1), .int (vz q36), .int (vz d27)])) := h39
  have hT41 := ts_row hT24 ha0 b38 h39
  have e42 := (b38.2 2 (ty_ne (rfl : ty 2 = 4) ha0 (by decide))).trans e30
  refine w_ldA e29_27 (fun _ => rfl) rfl ?_
  refine w_ldA e29_28 (fun _ => rfl) rfl ?_
  refine w_get e29_29 h39 rfl ?_
  refine w_kI e29_32 ?_
  refine w_ic e29_33 (by omega) (by omega) (fun (h43 : q36 ≠ -1) => ?_) (fun (h43 : q36 = -1) => ?_)
  ·
    refine w_ldA e29_40 (fun _ => rfl) rfl ?_
    refine w_get e29_41 h39 rfl ?_
    refine w_ldA e29_44 (fun _ => rfl) rfl ?_
    refine w_get e29_45 h39 rfl ?_
    obtain ⟨c45, hc46, e44⟩ := tc_poly hT41 (ty_r ha0)
    refine w_cv e29_48 (by decide) rfl e44 rfl (Nat.le_of_ble_eq_true rfl) (Nat.le_of_ble_eq_true rfl) (Nat.le_of_ble_eq_true rfl) (by decide) (by decide) (c22 hT41 (ty_r ha0) (by omega)) (fun o47 v48 hq49 => ?_)
    obtain ⟨rfl, q51, h52, rfl⟩ := hq49
    refine w_put e29_51 h39 (Nat.le_of_ble_eq_true rfl) rfl (fun v55 b53 h54 => ?_)
    have h54 : vm_at v55 a0 = some (.inr (2, [.ref (a0 + 1), .int (vz q36), .int (vz q51)])) := h54
    have hT56 := ts_row hT41 ha0 b53 h54
    have e57 := (b53.2 2 (ty_ne (rfl : ty 2 = 4) ha0 (by decide))).trans e42
    have e58 := (b53.2 (a0 + 1) (by omega)).trans e44
    exact w_rv e29_54 rfl ⟨hT56, rfl⟩
  ·
    refine w_kI e29_36 ?_
    refine w_x e29_37 (fun _ => rfl) ?_
    refine w_put e29_51 h39 (Nat.le_of_ble_eq_true rfl) rfl (fun v61 b59 h60 => ?_)
    have h60 : vm_at v61 a0 = some (.inr (2, [.ref (a0 + 1), .int (vz q36), .int (vz 0)])) := h60
    have hT62 := ts_row hT41 ha0 b59 h60
    have e63 := (b59.2 2 (ty_ne (rfl : ty 2 = 4) ha0 (by decide))).trans e42
    exact w_rv e29_54 rfl ⟨hT62, rfl⟩
set_option maxRecDepth 100000 in
set_option maxHeartbeats 4000000 in
theorem c30 {θ : tc_S} {v0 : (Bool × Bool) × vm_H} {vh : vm_H} (hT : tc θ v0 vh) {a0 : Nat} (ha0 : ty a0 = 3) {a1 : Nat} (ha1 : ty a1 = 3) : vm_Rp 0 0 30 [.ref a0, .ref a1] vh (fun r v1 => vh = v1 ∧ ∃ q : Int, ((0 ≤ q ∧ q ≤ 1)) ∧ r = some (.int (vz q))) := by
  have hok : (0 ≤ θ.1 ∧ θ.1 ≤ 8) ∧ (0 ≤ θ.2.1 ∧ θ.2.1 ≤ 16) ∧ (-2147483648 ≤ θ.2.2.2.1 ∧ θ.2.2.2.1 < 2147483648) ∧ (0 ≤ θ.2.2.2.2 ∧ θ.2.2.2.2 ≤ 8) := hT.1
  refine w_in (m := 0) ?_
  show vm_Wp _ _ _ 0 [some (.ref a0), some (.ref a1)] [] _ _
  refine w_ldA e30_0 (fun _ => rfl) rfl ?_
  obtain ⟨p2, d3, hp4, hd5, e1⟩ := tc_row hT ha0
  refine w_get e30_1 e1 rfl ?_
  refine w_ldA e30_4 (fun _ => rfl) rfl ?_
  obtain ⟨p7, d8, hp9, hd10, e6⟩ := tc_row hT ha1
  refine w_get e30_5 e6 rfl ?_
  refine w_ic e30_8 hp4 hp9 (fun (h11 : p2 = p7) => ?_) (fun (h11 : p2 ≠ p7) => ?_)
  ·
    refine w_ldA e30_28 (fun _ => rfl) rfl ?_
    refine w_get e30_29 e1 rfl ?_
    refine w_ldA e30_32 (fun _ => rfl) rfl ?_
    refine w_get e30_33 e6 rfl ?_
    refine w_ic e30_36 hd5 hd10 (fun (h12 : d3 = d8) => ?_) (fun (h12 : d3 ≠ d8) => ?_)
    ·
      refine w_ldA e30_56 (fun _ => rfl) rfl ?_
      refine w_get e30_57 e1 rfl ?_
      obtain ⟨c14, hc15, e13⟩ := tc_poly hT (ty_r ha0)
      refine w_get e30_60 e13 rfl ?_
      refine w_ldA e30_63 (fun _ => rfl) rfl ?_
      refine w_get e30_64 e6 rfl ?_
      obtain ⟨c17, hc18, e16⟩ := tc_poly hT (ty_r ha1)
      refine w_get e30_67 e16 rfl ?_
      refine w_ic e30_70 (by omega) (by omega) (fun (h19 : c17 ≤ c14) => ?_) (fun (h19 : c14 < c17) => ?_)
      ·
        refine w_kI e30_77 ?_
        exact w_rz e30_78 rfl (by omega) ⟨rfl, 0, (by omega), rfl⟩
      ·
        refine w_kI e30_73 ?_
        refine w_x e30_74 (fun _ => rfl) ?_
        exact w_rz e30_78 rfl (by omega) ⟨rfl, 1, (by omega), rfl⟩
    ·
      refine w_ldA e30_39 (fun _ => rfl) rfl ?_
      refine w_get e30_40 e1 rfl ?_
      refine w_ldA e30_43 (fun _ => rfl) rfl ?_
      refine w_get e30_44 e6 rfl ?_
      refine w_ic e30_47 hd5 hd10 (fun (h20 : d8 ≤ d3) => ?_) (fun (h20 : d3 < d8) => ?_)
      ·
        refine w_kI e30_54 ?_
        exact w_rz e30_55 rfl (by omega) ⟨rfl, 0, (by omega), rfl⟩
      ·
        refine w_kI e30_50 ?_
        refine w_x e30_51 (fun _ => rfl) ?_
        exact w_rz e30_55 rfl (by omega) ⟨rfl, 1, (by omega), rfl⟩
  ·
    refine w_ldA e30_11 (fun _ => rfl) rfl ?_
    refine w_get e30_12 e1 rfl ?_
    refine w_ldA e30_15 (fun _ => rfl) rfl ?_
    refine w_get e30_16 e6 rfl ?_
    refine w_ic e30_19 hp4 hp9 (fun (h21 : p7 ≤ p2) => ?_) (fun (h21 : p2 < p7) => ?_)
    ·
      refine w_kI e30_26 ?_
      exact w_rz e30_27 rfl (by omega) ⟨rfl, 0, (by omega), rfl⟩
    ·
      refine w_kI e30_22 ?_
      refine w_x e30_23 (fun _ => rfl) ?_
      exact w_rz e30_27 rfl (by omega) ⟨rfl, 1, (by omega), rfl⟩
