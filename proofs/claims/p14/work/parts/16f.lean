set_option maxRecDepth 100000 in
set_option maxHeartbeats 4000000 in
theorem c24x {a0 : Nat} {n : Int} {K F : Nat → Int64} {v0 vh : vm_H} (hM : pm a0 n K F v0 vh) (hn : 0 ≤ n ∧ n ≤ 60) {i1 : Int} (hi_1 : 0 ≤ i1 ∧ i1 ≤ n) (h6 : n < 60) : vm_Rp 1 30 24 [.ref a0, .int (vz i1)] vh (fun r v1 => pm a0 (n + 1) (va_cpy K K (i1 : Int).toNat (i1 + 1 : Int).toNat (n - i1 : Int).toNat) (va_cpy F F (i1 : Int).toNat (i1 + 1 : Int).toNat (n - i1 : Int).toNat) v0 v1 ∧ r = none) := by
  refine w_in (m := 0) ?_
  show vm_Wp _ _ _ 0 [some (.ref a0), some (.int (vz i1))] [] _ _
  refine w_ldA e24_0 (fun _ => rfl) rfl ?_
  refine w_get e24_1 hM.2.2.1 rfl ?_
  refine w_ldI e24_4 (fun _ => rfl) rfl ?_
  refine w_ldA e24_5 (fun _ => rfl) rfl ?_
  refine w_get e24_6 hM.2.2.1 rfl ?_
  refine w_ldI e24_9 (fun _ => rfl) rfl ?_
  refine w_kI e24_10 ?_
  refine w_iadd e24_11 ?_
  refine w_ldA e24_12 (fun _ => rfl) rfl ?_
  refine w_get e24_13 hM.2.2.1 rfl ?_
  refine w_ldI e24_16 (fun _ => rfl) rfl ?_
  refine w_isub e24_17 ?_
  refine w_acL e24_18 (hM.2.2.2.1) (hM.2.2.2.1) (by omega) (by omega) (by omega) (by omega) (by omega) (by decide) (by decide) (Nat.le_of_ble_eq_true rfl) (by decide) (by decide) (fun v1 b2 h3 => ?_)
  obtain ⟨K4, hd5, hM6⟩ : ∃ z, z = va_cpy K K (i1 : Int).toNat (i1 + 1 : Int).toNat (n - i1 : Int).toNat ∧ pm a0 n z F v0 v1 := ⟨_, rfl, pm_K hM b2 h3⟩
  refine w_ldA e24_21 (fun _ => rfl) rfl ?_
  refine w_get e24_22 hM6.2.2.1 rfl ?_
  refine w_ldI e24_25 (fun _ => rfl) rfl ?_
  refine w_ldA e24_26 (fun _ => rfl) rfl ?_
  refine w_get e24_27 hM6.2.2.1 rfl ?_
  refine w_ldI e24_30 (fun _ => rfl) rfl ?_
  refine w_kI e24_31 ?_
  refine w_iadd e24_32 ?_
  refine w_ldA e24_33 (fun _ => rfl) rfl ?_
  refine w_get e24_34 hM6.2.2.1 rfl ?_
  refine w_ldI e24_37 (fun _ => rfl) rfl ?_
  refine w_isub e24_38 ?_
  refine w_acL e24_39 (hM6.2.2.2.2) (hM6.2.2.2.2) (by omega) (by omega) (by omega) (by omega) (by omega) (by decide) (by decide) (Nat.le_of_ble_eq_true rfl) (by decide) (by decide) (fun v7 b8 h9 => ?_)
  obtain ⟨F10, hd11, hM12⟩ : ∃ z, z = va_cpy F F (i1 : Int).toNat (i1 + 1 : Int).toNat (n - i1 : Int).toNat ∧ pm a0 n K4 z v0 v7 := ⟨_, rfl, pm_F hM6 b8 h9⟩
  refine w_ldA e24_42 (fun _ => rfl) rfl ?_
  refine w_x e24_43 (fun _ => rfl) ?_
  refine w_get e24_44 hM12.2.2.1 rfl ?_
  refine w_kI e24_47 ?_
  refine w_iadd e24_48 ?_
  refine w_put e24_49 (hM12.2.2.1) (Nat.le_of_ble_eq_true rfl) rfl (fun v15 b13 h14 => ?_)
  obtain ⟨n16, hd17, hM18⟩ : ∃ z, z = n + 1 ∧ pm a0 z K4 F10 v0 v15 := ⟨_, rfl, pm_n hM12 b13 h14⟩
  exact w_rv e24_52 rfl ⟨(by have h9 := hM18; rw [hd17, hd11, hd5] at h9; exact h9), rfl⟩
set_option maxRecDepth 100000 in
set_option maxHeartbeats 4000000 in
theorem c25x {a0 : Nat} {n : Int} {K F : Nat → Int64} {v0 vh : vm_H} (hM : pm a0 n K F v0 vh) (hn : 0 ≤ n ∧ n ≤ 60) {i1 : Int} (hi_1 : 0 ≤ i1 ∧ i1 < n) (h6 : 0 < n) : vm_Rp 1 30 25 [.ref a0, .int (vz i1)] vh (fun r v1 => pm a0 (n - 1) (va_cpy K K (i1 + 1 : Int).toNat (i1 : Int).toNat (n - i1 - 1 : Int).toNat) (va_cpy F F (i1 + 1 : Int).toNat (i1 : Int).toNat (n - i1 - 1 : Int).toNat) v0 v1 ∧ r = none) := by
  refine w_in (m := 0) ?_
  show vm_Wp _ _ _ 0 [some (.ref a0), some (.int (vz i1))] [] _ _
  refine w_ldA e25_0 (fun _ => rfl) rfl ?_
  refine w_get e25_1 hM.2.2.1 rfl ?_
  refine w_ldI e25_4 (fun _ => rfl) rfl ?_
  refine w_kI e25_5 ?_
  refine w_iadd e25_6 ?_
  refine w_ldA e25_7 (fun _ => rfl) rfl ?_
  refine w_get e25_8 hM.2.2.1 rfl ?_
  refine w_ldI e25_11 (fun _ => rfl) rfl ?_
  refine w_ldA e25_12 (fun _ => rfl) rfl ?_
  refine w_get e25_13 hM.2.2.1 rfl ?_
  refine w_ldI e25_16 (fun _ => rfl) rfl ?_
  refine w_isub e25_17 ?_
  refine w_kI e25_18 ?_
  refine w_isub e25_19 ?_
  refine w_acL e25_20 (hM.2.2.2.1) (hM.2.2.2.1) (by omega) (by omega) (by omega) (by omega) (by omega) (by decide) (by decide) (Nat.le_of_ble_eq_true rfl) (by decide) (by decide) (fun v1 b2 h3 => ?_)
  obtain ⟨K4, hd5, hM6⟩ : ∃ z, z = va_cpy K K (i1 + 1 : Int).toNat (i1 : Int).toNat ((n - i1) - 1 : Int).toNat ∧ pm a0 n z F v0 v1 := ⟨_, rfl, pm_K hM b2 h3⟩
  refine w_ldA e25_23 (fun _ => rfl) rfl ?_
  refine w_get e25_24 hM6.2.2.1 rfl ?_
  refine w_ldI e25_27 (fun _ => rfl) rfl ?_
  refine w_kI e25_28 ?_
  refine w_iadd e25_29 ?_
  refine w_ldA e25_30 (fun _ => rfl) rfl ?_
  refine w_get e25_31 hM6.2.2.1 rfl ?_
  refine w_ldI e25_34 (fun _ => rfl) rfl ?_
  refine w_ldA e25_35 (fun _ => rfl) rfl ?_
  refine w_get e25_36 hM6.2.2.1 rfl ?_
  refine w_ldI e25_39 (fun _ => rfl) rfl ?_
  refine w_isub e25_40 ?_
  refine w_kI e25_41 ?_
  refine w_isub e25_42 ?_
  refine w_acL e25_43 (hM6.2.2.2.2) (hM6.2.2.2.2) (by omega) (by omega) (by omega) (by omega) (by omega) (by decide) (by decide) (Nat.le_of_ble_eq_true rfl) (by decide) (by decide) (fun v7 b8 h9 => ?_)
  obtain ⟨F10, hd11, hM12⟩ : ∃ z, z = va_cpy F F (i1 + 1 : Int).toNat (i1 : Int).toNat ((n - i1) - 1 : Int).toNat ∧ pm a0 n K4 z v0 v7 := ⟨_, rfl, pm_F hM6 b8 h9⟩
  refine w_ldA e25_46 (fun _ => rfl) rfl ?_
  refine w_x e25_47 (fun _ => rfl) ?_
  refine w_get e25_48 hM12.2.2.1 rfl ?_
  refine w_kI e25_51 ?_
  refine w_isub e25_52 ?_
  refine w_put e25_53 (hM12.2.2.1) (Nat.le_of_ble_eq_true rfl) rfl (fun v15 b13 h14 => ?_)
  obtain ⟨n16, hd17, hM18⟩ : ∃ z, z = n - 1 ∧ pm a0 z K4 F10 v0 v15 := ⟨_, rfl, pm_n hM12 b13 h14⟩
  exact w_rv e25_56 rfl ⟨(by have h9 := hM18; rw [hd17, hd11, hd5] at h9; exact h9), rfl⟩
set_option maxRecDepth 100000 in
set_option maxHeartbeats 4000000 in
theorem c23x_L {a0 : Nat} {n : Int} {K F : Nat → Int64} {v0 : vm_H} (hn : 0 ≤ n ∧ n ≤ 60) {l_1 : Int64} {l_2 : Int64} (hv : l_2.toInt ≠ 0) (hgl : ∀ t : Nat, (t : Int) < n → gl (F t)) : ∀ N : Nat, (∀ (vh : vm_H) (x5 : Int), (pm a0 n K F v0 vh) → (0 ≤ x5 ∧ x5 ≤ n) → (∀ j : Nat, (j : Int) < x5 → l_1.toInt < (K j).toInt) → (vr l_2) → ((60 - x5 : Int).toNat < N) → vm_Wp 2 51 23 21 [some (.ref a0), some (.long l_1), none, some (.long l_2), none, some (.int (vz x5)), none, none, none] [] vh (vq_P 23 (fun r v1 => ∃ (q n1 : Int) (K1 F1 : Nat → Int64) (t : Int), pm a0 n1 K1 F1 v0 v1 ∧ adr n K F l_1 l_2 q n1 K1 F1 t ∧ r = some (.int (vz q))))) := by
  intro N
  induction N with
  | zero => exact (by intros; omega)
  | succ N ih =>
    ·
      intro vh x5 hM hx5 hi0 hi1 hN
      have hvr := hi1
      have hvr1 := hi1.1
      have hvr2 := hi1.2
      refine w_ldI e23_21 (fun _ => rfl) rfl ?_
      refine w_ldA e23_23 (fun _ => rfl) rfl ?_
      refine w_get e23_24 hM.2.2.1 rfl ?_
      refine w_ic e23_27 (by omega) (by omega) (fun (h15 : n ≤ x5) => ?_) (fun (h15 : x5 < n) => ?_)
      ·
        refine w_ldI e23_48 (fun _ => rfl) rfl ?_
        refine w_ldA e23_50 (fun _ => rfl) rfl ?_
        refine w_get e23_51 hM.2.2.1 rfl ?_
        refine w_ic e23_54 (by omega) (by omega) (fun (h16 : n ≤ x5) => ?_) (fun (h16 : x5 < n) => ?_)
        ·
          refine w_kI e23_73 ?_
          refine w_stI (j := 6) (A1 := [some (.ref a0), some (.long l_1), none, some (.long l_2), none, some (.int (vz x5)), some (.int (vz 0)), none, none]) e23_74 (fun _ => rfl) (by decide) rfl ?_
          refine w_ldI e23_76 (fun _ => rfl) rfl ?_
          refine w_if e23_78 (by omega) (fun (h17 : 0 = 0) => ?_) (fun (h17 : 0 ≠ 0) => ?_)
          ·
            refine w_ldL e23_93 (fun _ => rfl) rfl ?_
            refine w_stL (j := 7) (A1 := [some (.ref a0), some (.long l_1), none, some (.long l_2), none, some (.int (vz x5)), some (.int (vz 0)), some (.long l_2), none]) e23_94 (fun _ => rfl) (by decide) rfl ?_
            refine w_ldL e23_96 (fun _ => rfl) rfl ?_
            refine w_cs e23_98 (by decide) (Nat.le_of_ble_eq_true rfl) (Nat.le_of_ble_eq_true rfl) (Nat.le_of_ble_eq_true rfl) (by decide) (by decide) c74x (fun o18 v19 hq20 => ?_)
            obtain ⟨rfl, q21, h22, rfl⟩ := hq20
            refine w_if e23_101 (by omega) (fun (h23 : q21 = 0) => ?_) (fun (h23 : q21 ≠ 0) => ?_)
            ·
              refine w_kI e23_118 ?_
              exact w_rz e23_119 rfl (by omega) ⟨0, n, K, F, x5, hM, Or.inr ⟨hvr, ⟨by omega, hi0, fun h9 => by omega⟩, Or.inl ⟨rfl, rfl, rfl, rfl, Or.inr ⟨fun h9 => absurd h9.1 (by omega), by unfold sr; omega⟩⟩⟩, rfl⟩
            ·
              refine w_ldI e23_104 (fun _ => rfl) rfl ?_
              refine w_if e23_106 (by omega) (fun (h24 : 0 ≠ 0) => ?_) (fun (h24 : 0 = 0) => ?_)
              ·
                refine w_ldI e23_120 (fun _ => rfl) rfl ?_
                refine w_if e23_122 (by omega) (fun (h25 : 0 ≠ 0) => ?_) (fun (h25 : 0 = 0) => ?_)
                ·
                  refine w_ldA e23_139 (fun _ => rfl) rfl ?_
                  refine w_get e23_140 hM.2.2.1 rfl ?_
                  refine w_ldI e23_143 (fun _ => rfl) rfl ?_
                  refine w_ldL e23_145 (fun _ => rfl) rfl ?_
                  refine w_lst e23_147 (hM.2.2.2.2) (by omega) (by omega) (by decide) (fun v28 b26 h27 => ?_)
                  obtain ⟨F29, hd30, hM31⟩ : ∃ z, z = vp_updL F (x5).toNat l_2 ∧ pm a0 n K z v0 v28 := ⟨_, rfl, pm_F hM b26 h27⟩
                  refine w_ldL e23_148 (fun _ => rfl) rfl ?_
                  refine w_x e23_150 (fun _ => rfl) ?_
                  refine w_lcmp e23_151 (fun q32 (h33 : -1 ≤ q32 ∧ q32 ≤ 1) h34 h35 => ?_)
                  have hc36 : (q32 = 0 ↔ l_2.toInt = ((Int64.ofNat 0)).toInt) ∧ (q32 < 0 ↔ l_2.toInt < ((Int64.ofNat 0)).toInt) := lc_i h34 h35
                  have hc37 : (Int64.ofNat 0).toInt = 0 := rfl
                  refine w_if e23_152 (by omega) (fun (h38 : q32 ≠ 0) => ?_) (fun (h38 : q32 = 0) => ?_)
                  ·
                    refine w_kI e23_161 ?_
                    exfalso; omega
                  ·
                    refine w_ldA e23_155 (fun _ => rfl) rfl ?_
                    refine w_ldI e23_156 (fun _ => rfl) rfl ?_
                    refine w_cv e23_158 (by decide) rfl (hM31.2.2.1) rfl (Nat.le_of_ble_eq_true rfl) (Nat.le_of_ble_eq_true rfl) (Nat.le_of_ble_eq_true rfl) (by decide) (by decide) (c25x hM31 (by omega) (i1 := x5) (by omega) (by omega)) (fun o39 v40 hq41 => ?_)
                    obtain ⟨hM42, rfl⟩ := hq41
                    refine w_kI e23_161 ?_
                    exfalso; omega
                ·
                  refine w_ldA e23_125 (fun _ => rfl) rfl ?_
                  refine w_ldI e23_126 (fun _ => rfl) rfl ?_
                  refine w_cv e23_128 (by decide) rfl (hM.2.2.1) rfl (Nat.le_of_ble_eq_true rfl) (Nat.le_of_ble_eq_true rfl) (Nat.le_of_ble_eq_true rfl) (by decide) (by decide) (c24x hM (by omega) (i1 := x5) (by omega) (by omega)) (fun o43 v44 hq45 => ?_)
                  obtain ⟨hM46, rfl⟩ := hq45
                  refine w_ldA e23_131 (fun _ => rfl) rfl ?_
                  refine w_get e23_132 hM46.2.2.1 rfl ?_
                  refine w_ldI e23_135 (fun _ => rfl) rfl ?_
                  refine w_ldL e23_137 (fun _ => rfl) rfl ?_
                  refine w_lst e23_138 (hM46.2.2.2.1) (by omega) (by omega) (by decide) (fun v49 b47 h48 => ?_)
                  obtain ⟨K50, hd51, hM52⟩ : ∃ z, z = vp_updL (va_cpy K K (x5 : Int).toNat (x5 + 1 : Int).toNat (n - x5 : Int).toNat) (x5).toNat l_1 ∧ pm a0 ((n + 1)) z ((va_cpy F F (x5 : Int).toNat (x5 + 1 : Int).toNat (n - x5 : Int).toNat)) v0 v49 := ⟨_, rfl, pm_K hM46 b47 h48⟩
                  refine w_ldA e23_139 (fun _ => rfl) rfl ?_
                  refine w_get e23_140 hM52.2.2.1 rfl ?_
                  refine w_ldI e23_143 (fun _ => rfl) rfl ?_
                  refine w_ldL e23_145 (fun _ => rfl) rfl ?_
                  refine w_lst e23_147 (hM52.2.2.2.2) (by omega) (by omega) (by decide) (fun v55 b53 h54 => ?_)
                  obtain ⟨F56, hd57, hM58⟩ : ∃ z, z = vp_updL (va_cpy F F (x5 : Int).toNat (x5 + 1 : Int).toNat (n - x5 : Int).toNat) (x5).toNat l_2 ∧ pm a0 ((n + 1)) K50 z v0 v55 := ⟨_, rfl, pm_F hM52 b53 h54⟩
                  refine w_ldL e23_148 (fun _ => rfl) rfl ?_
                  refine w_x e23_150 (fun _ => rfl) ?_
                  refine w_lcmp e23_151 (fun q59 (h60 : -1 ≤ q59 ∧ q59 ≤ 1) h61 h62 => ?_)
                  have hc63 : (q59 = 0 ↔ l_2.toInt = ((Int64.ofNat 0)).toInt) ∧ (q59 < 0 ↔ l_2.toInt < ((Int64.ofNat 0)).toInt) := lc_i h61 h62
                  have hc64 : (Int64.ofNat 0).toInt = 0 := rfl
                  refine w_if e23_152 (by omega) (fun (h65 : q59 ≠ 0) => ?_) (fun (h65 : q59 = 0) => ?_)
                  ·
                    refine w_kI e23_161 ?_
                    exact w_rz e23_162 rfl (by omega) ⟨1, (n + 1), K50, F56, x5, hM58, Or.inr ⟨hvr, ⟨by omega, hi0, fun h9 => by omega⟩, Or.inr (Or.inl ⟨rfl, fun h9 => absurd h9.1 (by omega), by unfold sr; omega, by omega, rfl, hd51, hd57⟩)⟩, rfl⟩
                  ·
                    refine w_ldA e23_155 (fun _ => rfl) rfl ?_
                    refine w_ldI e23_156 (fun _ => rfl) rfl ?_
                    refine w_cv e23_158 (by decide) rfl (hM58.2.2.1) rfl (Nat.le_of_ble_eq_true rfl) (Nat.le_of_ble_eq_true rfl) (Nat.le_of_ble_eq_true rfl) (by decide) (by decide) (c25x hM58 (by omega) (i1 := x5) (by omega) (by omega)) (fun o66 v67 hq68 => ?_)
                    obtain ⟨hM69, rfl⟩ := hq68
                    refine w_kI e23_161 ?_
                    exfalso; omega
              ·
                refine w_ldA e23_109 (fun _ => rfl) rfl ?_
                refine w_get e23_110 hM.2.2.1 rfl ?_
                refine w_kB e23_113 rfl ?_
                refine w_ic e23_115 (by omega) (by omega) (fun (h70 : n < 60) => ?_) (fun (h70 : 60 ≤ n) => ?_)
                ·
                  refine w_ldI e23_120 (fun _ => rfl) rfl ?_
                  refine w_if e23_122 (by omega) (fun (h71 : 0 ≠ 0) => ?_) (fun (h71 : 0 = 0) => ?_)
                  ·
                    refine w_ldA e23_139 (fun _ => rfl) rfl ?_
                    refine w_get e23_140 hM.2.2.1 rfl ?_
                    refine w_ldI e23_143 (fun _ => rfl) rfl ?_
                    refine w_ldL e23_145 (fun _ => rfl) rfl ?_
                    refine w_lst e23_147 (hM.2.2.2.2) (by omega) (by omega) (by decide) (fun v74 b72 h73 => ?_)
                    obtain ⟨F75, hd76, hM77⟩ : ∃ z, z = vp_updL F (x5).toNat l_2 ∧ pm a0 n K z v0 v74 := ⟨_, rfl, pm_F hM b72 h73⟩
                    refine w_ldL e23_148 (fun _ => rfl) rfl ?_
                    refine w_x e23_150 (fun _ => rfl) ?_
                    refine w_lcmp e23_151 (fun q78 (h79 : -1 ≤ q78 ∧ q78 ≤ 1) h80 h81 => ?_)
                    have hc82 : (q78 = 0 ↔ l_2.toInt = ((Int64.ofNat 0)).toInt) ∧ (q78 < 0 ↔ l_2.toInt < ((Int64.ofNat 0)).toInt) := lc_i h80 h81
                    have hc83 : (Int64.ofNat 0).toInt = 0 := rfl
                    refine w_if e23_152 (by omega) (fun (h84 : q78 ≠ 0) => ?_) (fun (h84 : q78 = 0) => ?_)
                    ·
                      refine w_kI e23_161 ?_
                      exfalso; omega
                    ·
                      refine w_ldA e23_155 (fun _ => rfl) rfl ?_
                      refine w_ldI e23_156 (fun _ => rfl) rfl ?_
                      refine w_cv e23_158 (by decide) rfl (hM77.2.2.1) rfl (Nat.le_of_ble_eq_true rfl) (Nat.le_of_ble_eq_true rfl) (Nat.le_of_ble_eq_true rfl) (by decide) (by decide) (c25x hM77 (by omega) (i1 := x5) (by omega) (by omega)) (fun o85 v86 hq87 => ?_)
                      obtain ⟨hM88, rfl⟩ := hq87
                      refine w_kI e23_161 ?_
                      exfalso; omega
                  ·
                    refine w_ldA e23_125 (fun _ => rfl) rfl ?_
                    refine w_ldI e23_126 (fun _ => rfl) rfl ?_
                    refine w_cv e23_128 (by decide) rfl (hM.2.2.1) rfl (Nat.le_of_ble_eq_true rfl) (Nat.le_of_ble_eq_true rfl) (Nat.le_of_ble_eq_true rfl) (by decide) (by decide) (c24x hM (by omega) (i1 := x5) (by omega) (by omega)) (fun o89 v90 hq91 => ?_)
                    obtain ⟨hM92, rfl⟩ := hq91
                    refine w_ldA e23_131 (fun _ => rfl) rfl ?_
                    refine w_get e23_132 hM92.2.2.1 rfl ?_
                    refine w_ldI e23_135 (fun _ => rfl) rfl ?_
                    refine w_ldL e23_137 (fun _ => rfl) rfl ?_
                    refine w_lst e23_138 (hM92.2.2.2.1) (by omega) (by omega) (by decide) (fun v95 b93 h94 => ?_)
                    obtain ⟨K96, hd97, hM98⟩ : ∃ z, z = vp_updL (va_cpy K K (x5 : Int).toNat (x5 + 1 : Int).toNat (n - x5 : Int).toNat) (x5).toNat l_1 ∧ pm a0 ((n + 1)) z ((va_cpy F F (x5 : Int).toNat (x5 + 1 : Int).toNat (n - x5 : Int).toNat)) v0 v95 := ⟨_, rfl, pm_K hM92 b93 h94⟩
                    refine w_ldA e23_139 (fun _ => rfl) rfl ?_
                    refine w_get e23_140 hM98.2.2.1 rfl ?_
                    refine w_ldI e23_143 (fun _ => rfl) rfl ?_
                    refine w_ldL e23_145 (fun _ => rfl) rfl ?_
                    refine w_lst e23_147 (hM98.2.2.2.2) (by omega) (by omega) (by decide) (fun v101 b99 h100 => ?_)
                    obtain ⟨F102, hd103, hM104⟩ : ∃ z, z = vp_updL (va_cpy F F (x5 : Int).toNat (x5 + 1 : Int).toNat (n - x5 : Int).toNat) (x5).toNat l_2 ∧ pm a0 ((n + 1)) K96 z v0 v101 := ⟨_, rfl, pm_F hM98 b99 h100⟩
                    refine w_ldL e23_148 (fun _ => rfl) rfl ?_
                    refine w_x e23_150 (fun _ => rfl) ?_
                    refine w_lcmp e23_151 (fun q105 (h106 : -1 ≤ q105 ∧ q105 ≤ 1) h107 h108 => ?_)
                    have hc109 : (q105 = 0 ↔ l_2.toInt = ((Int64.ofNat 0)).toInt) ∧ (q105 < 0 ↔ l_2.toInt < ((Int64.ofNat 0)).toInt) := lc_i h107 h108
                    have hc110 : (Int64.ofNat 0).toInt = 0 := rfl
                    refine w_if e23_152 (by omega) (fun (h111 : q105 ≠ 0) => ?_) (fun (h111 : q105 = 0) => ?_)
                    ·
                      refine w_kI e23_161 ?_
                      exact w_rz e23_162 rfl (by omega) ⟨1, (n + 1), K96, F102, x5, hM104, Or.inr ⟨hvr, ⟨by omega, hi0, fun h9 => by omega⟩, Or.inr (Or.inl ⟨rfl, fun h9 => absurd h9.1 (by omega), by unfold sr; omega, by omega, rfl, hd97, hd103⟩)⟩, rfl⟩
                    ·
                      refine w_ldA e23_155 (fun _ => rfl) rfl ?_
                      refine w_ldI e23_156 (fun _ => rfl) rfl ?_
                      refine w_cv e23_158 (by decide) rfl (hM104.2.2.1) rfl (Nat.le_of_ble_eq_true rfl) (Nat.le_of_ble_eq_true rfl) (Nat.le_of_ble_eq_true rfl) (by decide) (by decide) (c25x hM104 (by omega) (i1 := x5) (by omega) (by omega)) (fun o112 v113 hq114 => ?_)
                      obtain ⟨hM115, rfl⟩ := hq114
                      refine w_kI e23_161 ?_
                      exfalso; omega
                ·
                  refine w_kI e23_118 ?_
                  exact w_rz e23_119 rfl (by omega) ⟨0, n, K, F, x5, hM, Or.inr ⟨hvr, ⟨by omega, hi0, fun h9 => by omega⟩, Or.inl ⟨rfl, rfl, rfl, rfl, Or.inr ⟨fun h9 => absurd h9.1 (by omega), by unfold sr; omega⟩⟩⟩, rfl⟩
          ·
            refine w_ldA e23_81 (fun _ => rfl) rfl ?_
            refine w_get e23_82 hM.2.2.1 rfl ?_
            refine w_ldI e23_85 (fun _ => rfl) rfl ?_
            refine w_lld e23_87 (hM.2.2.2.2) (by omega) (by omega) (by decide) ?_
            have hg9 := hgl (x5).toNat (by omega)
            have hg8 := hg9.2
            refine w_ldL e23_88 (fun _ => rfl) rfl ?_
            refine w_x e23_89 (fun _ => rfl) ?_
            have hl116 := l_add (x := ((F (x5).toNat))) (y := l_2) (by omega) (by omega)
            refine w_x e23_90 (fun _ => rfl) ?_
            refine w_stL (j := 7) (A1 := [some (.ref a0), some (.long l_1), none, some (.long l_2), none, some (.int (vz x5)), some (.int (vz 0)), some (.long ((((F (x5).toNat)) + l_2))), none]) e23_94 (fun _ => rfl) (by decide) rfl ?_
            refine w_ldL e23_96 (fun _ => rfl) rfl ?_
            refine w_cs e23_98 (by decide) (Nat.le_of_ble_eq_true rfl) (Nat.le_of_ble_eq_true rfl) (Nat.le_of_ble_eq_true rfl) (by decide) (by decide) c74x (fun o117 v118 hq119 => ?_)
            obtain ⟨rfl, q120, h121, rfl⟩ := hq119
            refine w_if e23_101 (by omega) (fun (h122 : q120 = 0) => ?_) (fun (h122 : q120 ≠ 0) => ?_)
            ·
              refine w_kI e23_118 ?_
              exfalso; omega
            ·
              refine w_ldI e23_104 (fun _ => rfl) rfl ?_
              refine w_if e23_106 (by omega) (fun (h123 : 0 ≠ 0) => ?_) (fun (h123 : 0 = 0) => ?_)
              ·
                refine w_ldI e23_120 (fun _ => rfl) rfl ?_
                refine w_if e23_122 (by omega) (fun (h124 : 0 ≠ 0) => ?_) (fun (h124 : 0 = 0) => ?_)
                ·
                  refine w_ldA e23_139 (fun _ => rfl) rfl ?_
                  refine w_get e23_140 hM.2.2.1 rfl ?_
                  refine w_ldI e23_143 (fun _ => rfl) rfl ?_
                  refine w_ldL e23_145 (fun _ => rfl) rfl ?_
                  refine w_lst e23_147 (hM.2.2.2.2) (by omega) (by omega) (by decide) (fun v127 b125 h126 => ?_)
                  obtain ⟨F128, hd129, hM130⟩ : ∃ z, z = vp_updL F (x5).toNat ((((F (x5).toNat)) + l_2)) ∧ pm a0 n K z v0 v127 := ⟨_, rfl, pm_F hM b125 h126⟩
                  refine w_ldL e23_148 (fun _ => rfl) rfl ?_
                  refine w_x e23_150 (fun _ => rfl) ?_
                  refine w_lcmp e23_151 (fun q131 (h132 : -1 ≤ q131 ∧ q131 ≤ 1) h133 h134 => ?_)
                  have hc135 : (q131 = 0 ↔ ((((F (x5).toNat)) + l_2)).toInt = ((Int64.ofNat 0)).toInt) ∧ (q131 < 0 ↔ ((((F (x5).toNat)) + l_2)).toInt < ((Int64.ofNat 0)).toInt) := lc_i h133 h134
                  have hc136 : (Int64.ofNat 0).toInt = 0 := rfl
                  refine w_if e23_152 (by omega) (fun (h137 : q131 ≠ 0) => ?_) (fun (h137 : q131 = 0) => ?_)
                  ·
                    refine w_kI e23_161 ?_
                    exfalso; omega
                  ·
                    refine w_ldA e23_155 (fun _ => rfl) rfl ?_
                    refine w_ldI e23_156 (fun _ => rfl) rfl ?_
                    refine w_cv e23_158 (by decide) rfl (hM130.2.2.1) rfl (Nat.le_of_ble_eq_true rfl) (Nat.le_of_ble_eq_true rfl) (Nat.le_of_ble_eq_true rfl) (by decide) (by decide) (c25x hM130 (by omega) (i1 := x5) (by omega) (by omega)) (fun o138 v139 hq140 => ?_)
                    obtain ⟨hM141, rfl⟩ := hq140
                    refine w_kI e23_161 ?_
                    exfalso; omega
                ·
                  refine w_ldA e23_125 (fun _ => rfl) rfl ?_
                  refine w_ldI e23_126 (fun _ => rfl) rfl ?_
                  refine w_cv e23_128 (by decide) rfl (hM.2.2.1) rfl (Nat.le_of_ble_eq_true rfl) (Nat.le_of_ble_eq_true rfl) (Nat.le_of_ble_eq_true rfl) (by decide) (by decide) (c24x hM (by omega) (i1 := x5) (by omega) (by omega)) (fun o142 v143 hq144 => ?_)
                  obtain ⟨hM145, rfl⟩ := hq144
                  refine w_ldA e23_131 (fun _ => rfl) rfl ?_
                  refine w_get e23_132 hM145.2.2.1 rfl ?_
                  refine w_ldI e23_135 (fun _ => rfl) rfl ?_
                  refine w_ldL e23_137 (fun _ => rfl) rfl ?_
                  refine w_lst e23_138 (hM145.2.2.2.1) (by omega) (by omega) (by decide) (fun v148 b146 h147 => ?_)
                  obtain ⟨K149, hd150, hM151⟩ : ∃ z, z = vp_updL (va_cpy K K (x5 : Int).toNat (x5 + 1 : Int).toNat (n - x5 : Int).toNat) (x5).toNat l_1 ∧ pm a0 ((n + 1)) z ((va_cpy F F (x5 : Int).toNat (x5 + 1 : Int).toNat (n - x5 : Int).toNat)) v0 v148 := ⟨_, rfl, pm_K hM145 b146 h147⟩
                  refine w_ldA e23_139 (fun _ => rfl) rfl ?_
                  refine w_get e23_140 hM151.2.2.1 rfl ?_
                  refine w_ldI e23_143 (fun _ => rfl) rfl ?_
                  refine w_ldL e23_145 (fun _ => rfl) rfl ?_
                  refine w_lst e23_147 (hM151.2.2.2.2) (by omega) (by omega) (by decide) (fun v154 b152 h153 => ?_)
                  obtain ⟨F155, hd156, hM157⟩ : ∃ z, z = vp_updL (va_cpy F F (x5 : Int).toNat (x5 + 1 : Int).toNat (n - x5 : Int).toNat) (x5).toNat ((((F (x5).toNat)) + l_2)) ∧ pm a0 ((n + 1)) K149 z v0 v154 := ⟨_, rfl, pm_F hM151 b152 h153⟩
                  refine w_ldL e23_148 (fun _ => rfl) rfl ?_
                  refine w_x e23_150 (fun _ => rfl) ?_
                  refine w_lcmp e23_151 (fun q158 (h159 : -1 ≤ q158 ∧ q158 ≤ 1) h160 h161 => ?_)
                  have hc162 : (q158 = 0 ↔ ((((F (x5).toNat)) + l_2)).toInt = ((Int64.ofNat 0)).toInt) ∧ (q158 < 0 ↔ ((((F (x5).toNat)) + l_2)).toInt < ((Int64.ofNat 0)).toInt) := lc_i h160 h161
                  have hc163 : (Int64.ofNat 0).toInt = 0 := rfl
                  refine w_if e23_152 (by omega) (fun (h164 : q158 ≠ 0) => ?_) (fun (h164 : q158 = 0) => ?_)
                  ·
                    refine w_kI e23_161 ?_
                    exfalso; omega
                  ·
                    refine w_ldA e23_155 (fun _ => rfl) rfl ?_
                    refine w_ldI e23_156 (fun _ => rfl) rfl ?_
                    refine w_cv e23_158 (by decide) rfl (hM157.2.2.1) rfl (Nat.le_of_ble_eq_true rfl) (Nat.le_of_ble_eq_true rfl) (Nat.le_of_ble_eq_true rfl) (by decide) (by decide) (c25x hM157 (by omega) (i1 := x5) (by omega) (by omega)) (fun o165 v166 hq167 => ?_)
                    obtain ⟨hM168, rfl⟩ := hq167
                    refine w_kI e23_161 ?_
                    exfalso; omega
              ·
                refine w_ldA e23_109 (fun _ => rfl) rfl ?_
                refine w_get e23_110 hM.2.2.1 rfl ?_
                refine w_kB e23_113 rfl ?_
                refine w_ic e23_115 (by omega) (by omega) (fun (h169 : n < 60) => ?_) (fun (h169 : 60 ≤ n) => ?_)
                ·
                  refine w_ldI e23_120 (fun _ => rfl) rfl ?_
                  refine w_if e23_122 (by omega) (fun (h170 : 0 ≠ 0) => ?_) (fun (h170 : 0 = 0) => ?_)
                  ·
                    refine w_ldA e23_139 (fun _ => rfl) rfl ?_
                    refine w_get e23_140 hM.2.2.1 rfl ?_
                    refine w_ldI e23_143 (fun _ => rfl) rfl ?_
                    refine w_ldL e23_145 (fun _ => rfl) rfl ?_
                    refine w_lst e23_147 (hM.2.2.2.2) (by omega) (by omega) (by decide) (fun v173 b171 h172 => ?_)
                    obtain ⟨F174, hd175, hM176⟩ : ∃ z, z = vp_updL F (x5).toNat ((((F (x5).toNat)) + l_2)) ∧ pm a0 n K z v0 v173 := ⟨_, rfl, pm_F hM b171 h172⟩
                    refine w_ldL e23_148 (fun _ => rfl) rfl ?_
                    refine w_x e23_150 (fun _ => rfl) ?_
                    refine w_lcmp e23_151 (fun q177 (h178 : -1 ≤ q177 ∧ q177 ≤ 1) h179 h180 => ?_)
                    have hc181 : (q177 = 0 ↔ ((((F (x5).toNat)) + l_2)).toInt = ((Int64.ofNat 0)).toInt) ∧ (q177 < 0 ↔ ((((F (x5).toNat)) + l_2)).toInt < ((Int64.ofNat 0)).toInt) := lc_i h179 h180
                    have hc182 : (Int64.ofNat 0).toInt = 0 := rfl
                    refine w_if e23_152 (by omega) (fun (h183 : q177 ≠ 0) => ?_) (fun (h183 : q177 = 0) => ?_)
                    ·
                      refine w_kI e23_161 ?_
                      exfalso; omega
                    ·
                      refine w_ldA e23_155 (fun _ => rfl) rfl ?_
                      refine w_ldI e23_156 (fun _ => rfl) rfl ?_
                      refine w_cv e23_158 (by decide) rfl (hM176.2.2.1) rfl (Nat.le_of_ble_eq_true rfl) (Nat.le_of_ble_eq_true rfl) (Nat.le_of_ble_eq_true rfl) (by decide) (by decide) (c25x hM176 (by omega) (i1 := x5) (by omega) (by omega)) (fun o184 v185 hq186 => ?_)
                      obtain ⟨hM187, rfl⟩ := hq186
                      refine w_kI e23_161 ?_
                      exfalso; omega
                  ·
                    refine w_ldA e23_125 (fun _ => rfl) rfl ?_
                    refine w_ldI e23_126 (fun _ => rfl) rfl ?_
                    refine w_cv e23_128 (by decide) rfl (hM.2.2.1) rfl (Nat.le_of_ble_eq_true rfl) (Nat.le_of_ble_eq_true rfl) (Nat.le_of_ble_eq_true rfl) (by decide) (by decide) (c24x hM (by omega) (i1 := x5) (by omega) (by omega)) (fun o188 v189 hq190 => ?_)
                    obtain ⟨hM191, rfl⟩ := hq190
                    refine w_ldA e23_131 (fun _ => rfl) rfl ?_
                    refine w_get e23_132 hM191.2.2.1 rfl ?_
                    refine w_ldI e23_135 (fun _ => rfl) rfl ?_
                    refine w_ldL e23_137 (fun _ => rfl) rfl ?_
                    refine w_lst e23_138 (hM191.2.2.2.1) (by omega) (by omega) (by decide) (fun v194 b192 h193 => ?_)
                    obtain ⟨K195, hd196, hM197⟩ : ∃ z, z = vp_updL (va_cpy K K (x5 : Int).toNat (x5 + 1 : Int).toNat (n - x5 : Int).toNat) (x5).toNat l_1 ∧ pm a0 ((n + 1)) z ((va_cpy F F (x5 : Int).toNat (x5 + 1 : Int).toNat (n - x5 : Int).toNat)) v0 v194 := ⟨_, rfl, pm_K hM191 b192 h193⟩
                    refine w_ldA e23_139 (fun _ => rfl) rfl ?_
                    refine w_get e23_140 hM197.2.2.1 rfl ?_
                    refine w_ldI e23_143 (fun _ => rfl) rfl ?_
                    refine w_ldL e23_145 (fun _ => rfl) rfl ?_
                    refine w_lst e23_147 (hM197.2.2.2.2) (by omega) (by omega) (by decide) (fun v200 b198 h199 => ?_)
                    obtain ⟨F201, hd202, hM203⟩ : ∃ z, z = vp_updL (va_cpy F F (x5 : Int).toNat (x5 + 1 : Int).toNat (n - x5 : Int).toNat) (x5).toNat ((((F (x5).toNat)) + l_2)) ∧ pm a0 ((n + 1)) K195 z v0 v200 := ⟨_, rfl, pm_F hM197 b198 h199⟩
                    refine w_ldL e23_148 (fun _ => rfl) rfl ?_
                    refine w_x e23_150 (fun _ => rfl) ?_
                    refine w_lcmp e23_151 (fun q204 (h205 : -1 ≤ q204 ∧ q204 ≤ 1) h206 h207 => ?_)
                    have hc208 : (q204 = 0 ↔ ((((F (x5).toNat)) + l_2)).toInt = ((Int64.ofNat 0)).toInt) ∧ (q204 < 0 ↔ ((((F (x5).toNat)) + l_2)).toInt < ((Int64.ofNat 0)).toInt) := lc_i h206 h207
                    have hc209 : (Int64.ofNat 0).toInt = 0 := rfl
                    refine w_if e23_152 (by omega) (fun (h210 : q204 ≠ 0) => ?_) (fun (h210 : q204 = 0) => ?_)
                    ·
                      refine w_kI e23_161 ?_
                      exfalso; omega
                    ·
                      refine w_ldA e23_155 (fun _ => rfl) rfl ?_
                      refine w_ldI e23_156 (fun _ => rfl) rfl ?_
                      refine w_cv e23_158 (by decide) rfl (hM203.2.2.1) rfl (Nat.le_of_ble_eq_true rfl) (Nat.le_of_ble_eq_true rfl) (Nat.le_of_ble_eq_true rfl) (by decide) (by decide) (c25x hM203 (by omega) (i1 := x5) (by omega) (by omega)) (fun o211 v212 hq213 => ?_)
                      obtain ⟨hM214, rfl⟩ := hq213
                      refine w_kI e23_161 ?_
                      exfalso; omega
                ·
                  refine w_kI e23_118 ?_
                  exfalso; omega
        ·
          refine w_ldA e23_57 (fun _ => rfl) rfl ?_
          refine w_get e23_58 hM.2.2.1 rfl ?_
          refine w_ldI e23_61 (fun _ => rfl) rfl ?_
          refine w_lld e23_63 (hM.2.2.2.1) (by omega) (by omega) (by decide) ?_
          refine w_ldL e23_64 (fun _ => rfl) rfl ?_
          refine w_lcmp e23_65 (fun q215 (h216 : -1 ≤ q215 ∧ q215 ≤ 1) h217 h218 => ?_)
          have hc219 : (q215 = 0 ↔ ((K (x5).toNat)).toInt = l_1.toInt) ∧ (q215 < 0 ↔ ((K (x5).toNat)).toInt < l_1.toInt) := lc_i h217 h218
          refine w_if e23_66 (by omega) (fun (h220 : q215 ≠ 0) => ?_) (fun (h220 : q215 = 0) => ?_)
          ·
            have hkn : ¬ K (x5).toNat = l_1 := fun e9 => h220 (h217.mpr e9)
            refine w_kI e23_73 ?_
            refine w_stI (j := 6) (A1 := [some (.ref a0), some (.long l_1), none, some (.long l_2), none, some (.int (vz x5)), some (.int (vz 0)), none, none]) e23_74 (fun _ => rfl) (by decide) rfl ?_
            refine w_ldI e23_76 (fun _ => rfl) rfl ?_
            refine w_if e23_78 (by omega) (fun (h221 : 0 = 0) => ?_) (fun (h221 : 0 ≠ 0) => ?_)
            ·
              refine w_ldL e23_93 (fun _ => rfl) rfl ?_
              refine w_stL (j := 7) (A1 := [some (.ref a0), some (.long l_1), none, some (.long l_2), none, some (.int (vz x5)), some (.int (vz 0)), some (.long l_2), none]) e23_94 (fun _ => rfl) (by decide) rfl ?_
              refine w_ldL e23_96 (fun _ => rfl) rfl ?_
              refine w_cs e23_98 (by decide) (Nat.le_of_ble_eq_true rfl) (Nat.le_of_ble_eq_true rfl) (Nat.le_of_ble_eq_true rfl) (by decide) (by decide) c74x (fun o222 v223 hq224 => ?_)
              obtain ⟨rfl, q225, h226, rfl⟩ := hq224
              refine w_if e23_101 (by omega) (fun (h227 : q225 = 0) => ?_) (fun (h227 : q225 ≠ 0) => ?_)
              ·
                refine w_kI e23_118 ?_
                exact w_rz e23_119 rfl (by omega) ⟨0, n, K, F, x5, hM, Or.inr ⟨hvr, ⟨by omega, hi0, fun h9 => by omega⟩, Or.inl ⟨rfl, rfl, rfl, rfl, Or.inr ⟨fun h9 => hkn h9.2, by unfold sr; omega⟩⟩⟩, rfl⟩
              ·
                refine w_ldI e23_104 (fun _ => rfl) rfl ?_
                refine w_if e23_106 (by omega) (fun (h228 : 0 ≠ 0) => ?_) (fun (h228 : 0 = 0) => ?_)
                ·
                  refine w_ldI e23_120 (fun _ => rfl) rfl ?_
                  refine w_if e23_122 (by omega) (fun (h229 : 0 ≠ 0) => ?_) (fun (h229 : 0 = 0) => ?_)
                  ·
                    refine w_ldA e23_139 (fun _ => rfl) rfl ?_
                    refine w_get e23_140 hM.2.2.1 rfl ?_
                    refine w_ldI e23_143 (fun _ => rfl) rfl ?_
                    refine w_ldL e23_145 (fun _ => rfl) rfl ?_
                    refine w_lst e23_147 (hM.2.2.2.2) (by omega) (by omega) (by decide) (fun v232 b230 h231 => ?_)
                    obtain ⟨F233, hd234, hM235⟩ : ∃ z, z = vp_updL F (x5).toNat l_2 ∧ pm a0 n K z v0 v232 := ⟨_, rfl, pm_F hM b230 h231⟩
                    refine w_ldL e23_148 (fun _ => rfl) rfl ?_
                    refine w_x e23_150 (fun _ => rfl) ?_
                    refine w_lcmp e23_151 (fun q236 (h237 : -1 ≤ q236 ∧ q236 ≤ 1) h238 h239 => ?_)
                    have hc240 : (q236 = 0 ↔ l_2.toInt = ((Int64.ofNat 0)).toInt) ∧ (q236 < 0 ↔ l_2.toInt < ((Int64.ofNat 0)).toInt) := lc_i h238 h239
                    have hc241 : (Int64.ofNat 0).toInt = 0 := rfl
                    refine w_if e23_152 (by omega) (fun (h242 : q236 ≠ 0) => ?_) (fun (h242 : q236 = 0) => ?_)
                    ·
                      refine w_kI e23_161 ?_
                      exfalso; omega
                    ·
                      refine w_ldA e23_155 (fun _ => rfl) rfl ?_
                      refine w_ldI e23_156 (fun _ => rfl) rfl ?_
                      refine w_cv e23_158 (by decide) rfl (hM235.2.2.1) rfl (Nat.le_of_ble_eq_true rfl) (Nat.le_of_ble_eq_true rfl) (Nat.le_of_ble_eq_true rfl) (by decide) (by decide) (c25x hM235 (by omega) (i1 := x5) (by omega) (by omega)) (fun o243 v244 hq245 => ?_)
                      obtain ⟨hM246, rfl⟩ := hq245
                      refine w_kI e23_161 ?_
                      exfalso; omega
                  ·
                    refine w_ldA e23_125 (fun _ => rfl) rfl ?_
                    refine w_ldI e23_126 (fun _ => rfl) rfl ?_
                    refine w_cv e23_128 (by decide) rfl (hM.2.2.1) rfl (Nat.le_of_ble_eq_true rfl) (Nat.le_of_ble_eq_true rfl) (Nat.le_of_ble_eq_true rfl) (by decide) (by decide) (c24x hM (by omega) (i1 := x5) (by omega) (by omega)) (fun o247 v248 hq249 => ?_)
                    obtain ⟨hM250, rfl⟩ := hq249
                    refine w_ldA e23_131 (fun _ => rfl) rfl ?_
                    refine w_get e23_132 hM250.2.2.1 rfl ?_
                    refine w_ldI e23_135 (fun _ => rfl) rfl ?_
                    refine w_ldL e23_137 (fun _ => rfl) rfl ?_
                    refine w_lst e23_138 (hM250.2.2.2.1) (by omega) (by omega) (by decide) (fun v253 b251 h252 => ?_)
                    obtain ⟨K254, hd255, hM256⟩ : ∃ z, z = vp_updL (va_cpy K K (x5 : Int).toNat (x5 + 1 : Int).toNat (n - x5 : Int).toNat) (x5).toNat l_1 ∧ pm a0 ((n + 1)) z ((va_cpy F F (x5 : Int).toNat (x5 + 1 : Int).toNat (n - x5 : Int).toNat)) v0 v253 := ⟨_, rfl, pm_K hM250 b251 h252⟩
                    refine w_ldA e23_139 (fun _ => rfl) rfl ?_
                    refine w_get e23_140 hM256.2.2.1 rfl ?_
                    refine w_ldI e23_143 (fun _ => rfl) rfl ?_
                    refine w_ldL e23_145 (fun _ => rfl) rfl ?_
                    refine w_lst e23_147 (hM256.2.2.2.2) (by omega) (by omega) (by decide) (fun v259 b257 h258 => ?_)
                    obtain ⟨F260, hd261, hM262⟩ : ∃ z, z = vp_updL (va_cpy F F (x5 : Int).toNat (x5 + 1 : Int).toNat (n - x5 : Int).toNat) (x5).toNat l_2 ∧ pm a0 ((n + 1)) K254 z v0 v259 := ⟨_, rfl, pm_F hM256 b257 h258⟩
                    refine w_ldL e23_148 (fun _ => rfl) rfl ?_
                    refine w_x e23_150 (fun _ => rfl) ?_
                    refine w_lcmp e23_151 (fun q263 (h264 : -1 ≤ q263 ∧ q263 ≤ 1) h265 h266 => ?_)
                    have hc267 : (q263 = 0 ↔ l_2.toInt = ((Int64.ofNat 0)).toInt) ∧ (q263 < 0 ↔ l_2.toInt < ((Int64.ofNat 0)).toInt) := lc_i h265 h266
                    have hc268 : (Int64.ofNat 0).toInt = 0 := rfl
                    refine w_if e23_152 (by omega) (fun (h269 : q263 ≠ 0) => ?_) (fun (h269 : q263 = 0) => ?_)
                    ·
                      refine w_kI e23_161 ?_
                      exact w_rz e23_162 rfl (by omega) ⟨1, (n + 1), K254, F260, x5, hM262, Or.inr ⟨hvr, ⟨by omega, hi0, fun h9 => by omega⟩, Or.inr (Or.inl ⟨rfl, fun h9 => hkn h9.2, by unfold sr; omega, by omega, rfl, hd255, hd261⟩)⟩, rfl⟩
                    ·
                      refine w_ldA e23_155 (fun _ => rfl) rfl ?_
                      refine w_ldI e23_156 (fun _ => rfl) rfl ?_
                      refine w_cv e23_158 (by decide) rfl (hM262.2.2.1) rfl (Nat.le_of_ble_eq_true rfl) (Nat.le_of_ble_eq_true rfl) (Nat.le_of_ble_eq_true rfl) (by decide) (by decide) (c25x hM262 (by omega) (i1 := x5) (by omega) (by omega)) (fun o270 v271 hq272 => ?_)
                      obtain ⟨hM273, rfl⟩ := hq272
                      refine w_kI e23_161 ?_
                      exfalso; omega
                ·
                  refine w_ldA e23_109 (fun _ => rfl) rfl ?_
                  refine w_get e23_110 hM.2.2.1 rfl ?_
                  refine w_kB e23_113 rfl ?_
                  refine w_ic e23_115 (by omega) (by omega) (fun (h274 : n < 60) => ?_) (fun (h274 : 60 ≤ n) => ?_)
                  ·
                    refine w_ldI e23_120 (fun _ => rfl) rfl ?_
                    refine w_if e23_122 (by omega) (fun (h275 : 0 ≠ 0) => ?_) (fun (h275 : 0 = 0) => ?_)
                    ·
                      refine w_ldA e23_139 (fun _ => rfl) rfl ?_
                      refine w_get e23_140 hM.2.2.1 rfl ?_
                      refine w_ldI e23_143 (fun _ => rfl) rfl ?_
                      refine w_ldL e23_145 (fun _ => rfl) rfl ?_
                      refine w_lst e23_147 (hM.2.2.2.2) (by omega) (by omega) (by decide) (fun v278 b276 h277 => ?_)
                      obtain ⟨F279, hd280, hM281⟩ : ∃ z, z = vp_updL F (x5).toNat l_2 ∧ pm a0 n K z v0 v278 := ⟨_, rfl, pm_F hM b276 h277⟩
                      refine w_ldL e23_148 (fun _ => rfl) rfl ?_
                      refine w_x e23_150 (fun _ => rfl) ?_
                      refine w_lcmp e23_151 (fun q282 (h283 : -1 ≤ q282 ∧ q282 ≤ 1) h284 h285 => ?_)
                      have hc286 : (q282 = 0 ↔ l_2.toInt = ((Int64.ofNat 0)).toInt) ∧ (q282 < 0 ↔ l_2.toInt < ((Int64.ofNat 0)).toInt) := lc_i h284 h285
                      have hc287 : (Int64.ofNat 0).toInt = 0 := rfl
                      refine w_if e23_152 (by omega) (fun (h288 : q282 ≠ 0) => ?_) (fun (h288 : q282 = 0) => ?_)
                      ·
                        refine w_kI e23_161 ?_
                        exfalso; omega
                      ·
                        refine w_ldA e23_155 (fun _ => rfl) rfl ?_
                        refine w_ldI e23_156 (fun _ => rfl) rfl ?_
                        refine w_cv e23_158 (by decide) rfl (hM281.2.2.1) rfl (Nat.le_of_ble_eq_true rfl) (Nat.le_of_ble_eq_true rfl) (Nat.le_of_ble_eq_true rfl) (by decide) (by decide) (c25x hM281 (by omega) (i1 := x5) (by omega) (by omega)) (fun o289 v290 hq291 => ?_)
                        obtain ⟨hM292, rfl⟩ := hq291
                        refine w_kI e23_161 ?_
                        exfalso; omega
                    ·
                      refine w_ldA e23_125 (fun _ => rfl) rfl ?_
                      refine w_ldI e23_126 (fun _ => rfl) rfl ?_
                      refine w_cv e23_128 (by decide) rfl (hM.2.2.1) rfl (Nat.le_of_ble_eq_true rfl) (Nat.le_of_ble_eq_true rfl) (Nat.le_of_ble_eq_true rfl) (by decide) (by decide) (c24x hM (by omega) (i1 := x5) (by omega) (by omega)) (fun o293 v294 hq295 => ?_)
                      obtain ⟨hM296, rfl⟩ := hq295
                      refine w_ldA e23_131 (fun _ => rfl) rfl ?_
                      refine w_get e23_132 hM296.2.2.1 rfl ?_
                      refine w_ldI e23_135 (fun _ => rfl) rfl ?_
                      refine w_ldL e23_137 (fun _ => rfl) rfl ?_
                      refine w_lst e23_138 (hM296.2.2.2.1) (by omega) (by omega) (by decide) (fun v299 b297 h298 => ?_)
                      obtain ⟨K300, hd301, hM302⟩ : ∃ z, z = vp_updL (va_cpy K K (x5 : Int).toNat (x5 + 1 : Int).toNat (n - x5 : Int).toNat) (x5).toNat l_1 ∧ pm a0 ((n + 1)) z ((va_cpy F F (x5 : Int).toNat (x5 + 1 : Int).toNat (n - x5 : Int).toNat)) v0 v299 := ⟨_, rfl, pm_K hM296 b297 h298⟩
                      refine w_ldA e23_139 (fun _ => rfl) rfl ?_
                      refine w_get e23_140 hM302.2.2.1 rfl ?_
                      refine w_ldI e23_143 (fun _ => rfl) rfl ?_
                      refine w_ldL e23_145 (fun _ => rfl) rfl ?_
                      refine w_lst e23_147 (hM302.2.2.2.2) (by omega) (by omega) (by decide) (fun v305 b303 h304 => ?_)
                      obtain ⟨F306, hd307, hM308⟩ : ∃ z, z = vp_updL (va_cpy F F (x5 : Int).toNat (x5 + 1 : Int).toNat (n - x5 : Int).toNat) (x5).toNat l_2 ∧ pm a0 ((n + 1)) K300 z v0 v305 := ⟨_, rfl, pm_F hM302 b303 h304⟩
                      refine w_ldL e23_148 (fun _ => rfl) rfl ?_
                      refine w_x e23_150 (fun _ => rfl) ?_
                      refine w_lcmp e23_151 (fun q309 (h310 : -1 ≤ q309 ∧ q309 ≤ 1) h311 h312 => ?_)
                      have hc313 : (q309 = 0 ↔ l_2.toInt = ((Int64.ofNat 0)).toInt) ∧ (q309 < 0 ↔ l_2.toInt < ((Int64.ofNat 0)).toInt) := lc_i h311 h312
                      have hc314 : (Int64.ofNat 0).toInt = 0 := rfl
                      refine w_if e23_152 (by omega) (fun (h315 : q309 ≠ 0) => ?_) (fun (h315 : q309 = 0) => ?_)
                      ·
                        refine w_kI e23_161 ?_
                        exact w_rz e23_162 rfl (by omega) ⟨1, (n + 1), K300, F306, x5, hM308, Or.inr ⟨hvr, ⟨by omega, hi0, fun h9 => by omega⟩, Or.inr (Or.inl ⟨rfl, fun h9 => hkn h9.2, by unfold sr; omega, by omega, rfl, hd301, hd307⟩)⟩, rfl⟩
                      ·
                        refine w_ldA e23_155 (fun _ => rfl) rfl ?_
                        refine w_ldI e23_156 (fun _ => rfl) rfl ?_
                        refine w_cv e23_158 (by decide) rfl (hM308.2.2.1) rfl (Nat.le_of_ble_eq_true rfl) (Nat.le_of_ble_eq_true rfl) (Nat.le_of_ble_eq_true rfl) (by decide) (by decide) (c25x hM308 (by omega) (i1 := x5) (by omega) (by omega)) (fun o316 v317 hq318 => ?_)
                        obtain ⟨hM319, rfl⟩ := hq318
                        refine w_kI e23_161 ?_
                        exfalso; omega
                  ·
                    refine w_kI e23_118 ?_
                    exact w_rz e23_119 rfl (by omega) ⟨0, n, K, F, x5, hM, Or.inr ⟨hvr, ⟨by omega, hi0, fun h9 => by omega⟩, Or.inl ⟨rfl, rfl, rfl, rfl, Or.inr ⟨fun h9 => hkn h9.2, by unfold sr; omega⟩⟩⟩, rfl⟩
            ·
              refine w_ldA e23_81 (fun _ => rfl) rfl ?_
              refine w_get e23_82 hM.2.2.1 rfl ?_
              refine w_ldI e23_85 (fun _ => rfl) rfl ?_
              refine w_lld e23_87 (hM.2.2.2.2) (by omega) (by omega) (by decide) ?_
              have hg9 := hgl (x5).toNat (by omega)
              have hg8 := hg9.2
              refine w_ldL e23_88 (fun _ => rfl) rfl ?_
              refine w_x e23_89 (fun _ => rfl) ?_
              have hl320 := l_add (x := ((F (x5).toNat))) (y := l_2) (by omega) (by omega)
              refine w_x e23_90 (fun _ => rfl) ?_
              refine w_stL (j := 7) (A1 := [some (.ref a0), some (.long l_1), none, some (.long l_2), none, some (.int (vz x5)), some (.int (vz 0)), some (.long ((((F (x5).toNat)) + l_2))), none]) e23_94 (fun _ => rfl) (by decide) rfl ?_
              refine w_ldL e23_96 (fun _ => rfl) rfl ?_
              refine w_cs e23_98 (by decide) (Nat.le_of_ble_eq_true rfl) (Nat.le_of_ble_eq_true rfl) (Nat.le_of_ble_eq_true rfl) (by decide) (by decide) c74x (fun o321 v322 hq323 => ?_)
              obtain ⟨rfl, q324, h325, rfl⟩ := hq323
              refine w_if e23_101 (by omega) (fun (h326 : q324 = 0) => ?_) (fun (h326 : q324 ≠ 0) => ?_)
              ·
                refine w_kI e23_118 ?_
                exfalso; omega
              ·
                refine w_ldI e23_104 (fun _ => rfl) rfl ?_
                refine w_if e23_106 (by omega) (fun (h327 : 0 ≠ 0) => ?_) (fun (h327 : 0 = 0) => ?_)
                ·
                  refine w_ldI e23_120 (fun _ => rfl) rfl ?_
                  refine w_if e23_122 (by omega) (fun (h328 : 0 ≠ 0) => ?_) (fun (h328 : 0 = 0) => ?_)
                  ·
                    refine w_ldA e23_139 (fun _ => rfl) rfl ?_
                    refine w_get e23_140 hM.2.2.1 rfl ?_
                    refine w_ldI e23_143 (fun _ => rfl) rfl ?_
                    refine w_ldL e23_145 (fun _ => rfl) rfl ?_
                    refine w_lst e23_147 (hM.2.2.2.2) (by omega) (by omega) (by decide) (fun v331 b329 h330 => ?_)
                    obtain ⟨F332, hd333, hM334⟩ : ∃ z, z = vp_updL F (x5).toNat ((((F (x5).toNat)) + l_2)) ∧ pm a0 n K z v0 v331 := ⟨_, rfl, pm_F hM b329 h330⟩
                    refine w_ldL e23_148 (fun _ => rfl) rfl ?_
                    refine w_x e23_150 (fun _ => rfl) ?_
                    refine w_lcmp e23_151 (fun q335 (h336 : -1 ≤ q335 ∧ q335 ≤ 1) h337 h338 => ?_)
                    have hc339 : (q335 = 0 ↔ ((((F (x5).toNat)) + l_2)).toInt = ((Int64.ofNat 0)).toInt) ∧ (q335 < 0 ↔ ((((F (x5).toNat)) + l_2)).toInt < ((Int64.ofNat 0)).toInt) := lc_i h337 h338
                    have hc340 : (Int64.ofNat 0).toInt = 0 := rfl
                    refine w_if e23_152 (by omega) (fun (h341 : q335 ≠ 0) => ?_) (fun (h341 : q335 = 0) => ?_)
                    ·
                      refine w_kI e23_161 ?_
                      exfalso; omega
                    ·
                      refine w_ldA e23_155 (fun _ => rfl) rfl ?_
                      refine w_ldI e23_156 (fun _ => rfl) rfl ?_
                      refine w_cv e23_158 (by decide) rfl (hM334.2.2.1) rfl (Nat.le_of_ble_eq_true rfl) (Nat.le_of_ble_eq_true rfl) (Nat.le_of_ble_eq_true rfl) (by decide) (by decide) (c25x hM334 (by omega) (i1 := x5) (by omega) (by omega)) (fun o342 v343 hq344 => ?_)
                      obtain ⟨hM345, rfl⟩ := hq344
                      refine w_kI e23_161 ?_
                      exfalso; omega
                  ·
                    refine w_ldA e23_125 (fun _ => rfl) rfl ?_
                    refine w_ldI e23_126 (fun _ => rfl) rfl ?_
                    refine w_cv e23_128 (by decide) rfl (hM.2.2.1) rfl (Nat.le_of_ble_eq_true rfl) (Nat.le_of_ble_eq_true rfl) (Nat.le_of_ble_eq_true rfl) (by decide) (by decide) (c24x hM (by omega) (i1 := x5) (by omega) (by omega)) (fun o346 v347 hq348 => ?_)
                    obtain ⟨hM349, rfl⟩ := hq348
                    refine w_ldA e23_131 (fun _ => rfl) rfl ?_
                    refine w_get e23_132 hM349.2.2.1 rfl ?_
                    refine w_ldI e23_135 (fun _ => rfl) rfl ?_
                    refine w_ldL e23_137 (fun _ => rfl) rfl ?_
                    refine w_lst e23_138 (hM349.2.2.2.1) (by omega) (by omega) (by decide) (fun v352 b350 h351 => ?_)
                    obtain ⟨K353, hd354, hM355⟩ : ∃ z, z = vp_updL (va_cpy K K (x5 : Int).toNat (x5 + 1 : Int).toNat (n - x5 : Int).toNat) (x5).toNat l_1 ∧ pm a0 ((n + 1)) z ((va_cpy F F (x5 : Int).toNat (x5 + 1 : Int).toNat (n - x5 : Int).toNat)) v0 v352 := ⟨_, rfl, pm_K hM349 b350 h351⟩
                    refine w_ldA e23_139 (fun _ => rfl) rfl ?_
                    refine w_get e23_140 hM355.2.2.1 rfl ?_
                    refine w_ldI e23_143 (fun _ => rfl) rfl ?_
                    refine w_ldL e23_145 (fun _ => rfl) rfl ?_
                    refine w_lst e23_147 (hM355.2.2.2.2) (by omega) (by omega) (by decide) (fun v358 b356 h357 => ?_)
                    obtain ⟨F359, hd360, hM361⟩ : ∃ z, z = vp_updL (va_cpy F F (x5 : Int).toNat (x5 + 1 : Int).toNat (n - x5 : Int).toNat) (x5).toNat ((((F (x5).toNat)) + l_2)) ∧ pm a0 ((n + 1)) K353 z v0 v358 := ⟨_, rfl, pm_F hM355 b356 h357⟩
                    refine w_ldL e23_148 (fun _ => rfl) rfl ?_
                    refine w_x e23_150 (fun _ => rfl) ?_
                    refine w_lcmp e23_151 (fun q362 (h363 : -1 ≤ q362 ∧ q362 ≤ 1) h364 h365 => ?_)
                    have hc366 : (q362 = 0 ↔ ((((F (x5).toNat)) + l_2)).toInt = ((Int64.ofNat 0)).toInt) ∧ (q362 < 0 ↔ ((((F (x5).toNat)) + l_2)).toInt < ((Int64.ofNat 0)).toInt) := lc_i h364 h365
                    have hc367 : (Int64.ofNat 0).toInt = 0 := rfl
                    refine w_if e23_152 (by omega) (fun (h368 : q362 ≠ 0) => ?_) (fun (h368 : q362 = 0) => ?_)
                    ·
                      refine w_kI e23_161 ?_
                      exfalso; omega
                    ·
                      refine w_ldA e23_155 (fun _ => rfl) rfl ?_
                      refine w_ldI e23_156 (fun _ => rfl) rfl ?_
                      refine w_cv e23_158 (by decide) rfl (hM361.2.2.1) rfl (Nat.le_of_ble_eq_true rfl) (Nat.le_of_ble_eq_true rfl) (Nat.le_of_ble_eq_true rfl) (by decide) (by decide) (c25x hM361 (by omega) (i1 := x5) (by omega) (by omega)) (fun o369 v370 hq371 => ?_)
                      obtain ⟨hM372, rfl⟩ := hq371
                      refine w_kI e23_161 ?_
                      exfalso; omega
                ·
                  refine w_ldA e23_109 (fun _ => rfl) rfl ?_
                  refine w_get e23_110 hM.2.2.1 rfl ?_
                  refine w_kB e23_113 rfl ?_
                  refine w_ic e23_115 (by omega) (by omega) (fun (h373 : n < 60) => ?_) (fun (h373 : 60 ≤ n) => ?_)
                  ·
                    refine w_ldI e23_120 (fun _ => rfl) rfl ?_
                    refine w_if e23_122 (by omega) (fun (h374 : 0 ≠ 0) => ?_) (fun (h374 : 0 = 0) => ?_)
                    ·
                      refine w_ldA e23_139 (fun _ => rfl) rfl ?_
                      refine w_get e23_140 hM.2.2.1 rfl ?_
                      refine w_ldI e23_143 (fun _ => rfl) rfl ?_
                      refine w_ldL e23_145 (fun _ => rfl) rfl ?_
                      refine w_lst e23_147 (hM.2.2.2.2) (by omega) (by omega) (by decide) (fun v377 b375 h376 => ?_)
                      obtain ⟨F378, hd379, hM380⟩ : ∃ z, z = vp_updL F (x5).toNat ((((F (x5).toNat)) + l_2)) ∧ pm a0 n K z v0 v377 := ⟨_, rfl, pm_F hM b375 h376⟩
                      refine w_ldL e23_148 (fun _ => rfl) rfl ?_
                      refine w_x e23_150 (fun _ => rfl) ?_
                      refine w_lcmp e23_151 (fun q381 (h382 : -1 ≤ q381 ∧ q381 ≤ 1) h383 h384 => ?_)
                      have hc385 : (q381 = 0 ↔ ((((F (x5).toNat)) + l_2)).toInt = ((Int64.ofNat 0)).toInt) ∧ (q381 < 0 ↔ ((((F (x5).toNat)) + l_2)).toInt < ((Int64.ofNat 0)).toInt) := lc_i h383 h384
                      have hc386 : (Int64.ofNat 0).toInt = 0 := rfl
                      refine w_if e23_152 (by omega) (fun (h387 : q381 ≠ 0) => ?_) (fun (h387 : q381 = 0) => ?_)
                      ·
                        refine w_kI e23_161 ?_
                        exfalso; omega
                      ·
                        refine w_ldA e23_155 (fun _ => rfl) rfl ?_
                        refine w_ldI e23_156 (fun _ => rfl) rfl ?_
                        refine w_cv e23_158 (by decide) rfl (hM380.2.2.1) rfl (Nat.le_of_ble_eq_true rfl) (Nat.le_of_ble_eq_true rfl) (Nat.le_of_ble_eq_true rfl) (by decide) (by decide) (c25x hM380 (by omega) (i1 := x5) (by omega) (by omega)) (fun o388 v389 hq390 => ?_)
                        obtain ⟨hM391, rfl⟩ := hq390
                        refine w_kI e23_161 ?_
                        exfalso; omega
                    ·
                      refine w_ldA e23_125 (fun _ => rfl) rfl ?_
                      refine w_ldI e23_126 (fun _ => rfl) rfl ?_
                      refine w_cv e23_128 (by decide) rfl (hM.2.2.1) rfl (Nat.le_of_ble_eq_true rfl) (Nat.le_of_ble_eq_true rfl) (Nat.le_of_ble_eq_true rfl) (by decide) (by decide) (c24x hM (by omega) (i1 := x5) (by omega) (by omega)) (fun o392 v393 hq394 => ?_)
                      obtain ⟨hM395, rfl⟩ := hq394
                      refine w_ldA e23_131 (fun _ => rfl) rfl ?_
                      refine w_get e23_132 hM395.2.2.1 rfl ?_
                      refine w_ldI e23_135 (fun _ => rfl) rfl ?_
                      refine w_ldL e23_137 (fun _ => rfl) rfl ?_
                      refine w_lst e23_138 (hM395.2.2.2.1) (by omega) (by omega) (by decide) (fun v398 b396 h397 => ?_)
                      obtain ⟨K399, hd400, hM401⟩ : ∃ z, z = vp_updL (va_cpy K K (x5 : Int).toNat (x5 + 1 : Int).toNat (n - x5 : Int).toNat) (x5).toNat l_1 ∧ pm a0 ((n + 1)) z ((va_cpy F F (x5 : Int).toNat (x5 + 1 : Int).toNat (n - x5 : Int).toNat)) v0 v398 := ⟨_, rfl, pm_K hM395 b396 h397⟩
                      refine w_ldA e23_139 (fun _ => rfl) rfl ?_
                      refine w_get e23_140 hM401.2.2.1 rfl ?_
                      refine w_ldI e23_143 (fun _ => rfl) rfl ?_
                      refine w_ldL e23_145 (fun _ => rfl) rfl ?_
                      refine w_lst e23_147 (hM401.2.2.2.2) (by omega) (by omega) (by decide) (fun v404 b402 h403 => ?_)
                      obtain ⟨F405, hd406, hM407⟩ : ∃ z, z = vp_updL (va_cpy F F (x5 : Int).toNat (x5 + 1 : Int).toNat (n - x5 : Int).toNat) (x5).toNat ((((F (x5).toNat)) + l_2)) ∧ pm a0 ((n + 1)) K399 z v0 v404 := ⟨_, rfl, pm_F hM401 b402 h403⟩
                      refine w_ldL e23_148 (fun _ => rfl) rfl ?_
                      refine w_x e23_150 (fun _ => rfl) ?_
                      refine w_lcmp e23_151 (fun q408 (h409 : -1 ≤ q408 ∧ q408 ≤ 1) h410 h411 => ?_)
                      have hc412 : (q408 = 0 ↔ ((((F (x5).toNat)) + l_2)).toInt = ((Int64.ofNat 0)).toInt) ∧ (q408 < 0 ↔ ((((F (x5).toNat)) + l_2)).toInt < ((Int64.ofNat 0)).toInt) := lc_i h410 h411
                      have hc413 : (Int64.ofNat 0).toInt = 0 := rfl
                      refine w_if e23_152 (by omega) (fun (h414 : q408 ≠ 0) => ?_) (fun (h414 : q408 = 0) => ?_)
                      ·
                        refine w_kI e23_161 ?_
                        exfalso; omega
                      ·
                        refine w_ldA e23_155 (fun _ => rfl) rfl ?_
                        refine w_ldI e23_156 (fun _ => rfl) rfl ?_
                        refine w_cv e23_158 (by decide) rfl (hM407.2.2.1) rfl (Nat.le_of_ble_eq_true rfl) (Nat.le_of_ble_eq_true rfl) (Nat.le_of_ble_eq_true rfl) (by decide) (by decide) (c25x hM407 (by omega) (i1 := x5) (by omega) (by omega)) (fun o415 v416 hq417 => ?_)
                        obtain ⟨hM418, rfl⟩ := hq417
                        refine w_kI e23_161 ?_
                        exfalso; omega
                  ·
                    refine w_kI e23_118 ?_
                    exfalso; omega
          ·
            have hkn : K (x5).toNat = l_1 := h217.mp h220
            refine w_kI e23_69 ?_
            refine w_x e23_70 (fun _ => rfl) ?_
            refine w_stI (j := 6) (A1 := [some (.ref a0), some (.long l_1), none, some (.long l_2), none, some (.int (vz x5)), some (.int (vz 1)), none, none]) e23_74 (fun _ => rfl) (by decide) rfl ?_
            refine w_ldI e23_76 (fun _ => rfl) rfl ?_
            refine w_if e23_78 (by omega) (fun (h419 : 1 = 0) => ?_) (fun (h419 : 1 ≠ 0) => ?_)
            ·
              refine w_ldL e23_93 (fun _ => rfl) rfl ?_
              refine w_stL (j := 7) (A1 := [some (.ref a0), some (.long l_1), none, some (.long l_2), none, some (.int (vz x5)), some (.int (vz 1)), some (.long l_2), none]) e23_94 (fun _ => rfl) (by decide) rfl ?_
              refine w_ldL e23_96 (fun _ => rfl) rfl ?_
              refine w_cs e23_98 (by decide) (Nat.le_of_ble_eq_true rfl) (Nat.le_of_ble_eq_true rfl) (Nat.le_of_ble_eq_true rfl) (by decide) (by decide) c74x (fun o420 v421 hq422 => ?_)
              obtain ⟨rfl, q423, h424, rfl⟩ := hq422
              refine w_if e23_101 (by omega) (fun (h425 : q423 = 0) => ?_) (fun (h425 : q423 ≠ 0) => ?_)
              ·
                refine w_kI e23_118 ?_
                exfalso; omega
              ·
                refine w_ldI e23_104 (fun _ => rfl) rfl ?_
                refine w_if e23_106 (by omega) (fun (h426 : 1 ≠ 0) => ?_) (fun (h426 : 1 = 0) => ?_)
                ·
                  refine w_ldI e23_120 (fun _ => rfl) rfl ?_
                  refine w_if e23_122 (by omega) (fun (h427 : 1 ≠ 0) => ?_) (fun (h427 : 1 = 0) => ?_)
                  ·
                    refine w_ldA e23_139 (fun _ => rfl) rfl ?_
                    refine w_get e23_140 hM.2.2.1 rfl ?_
                    refine w_ldI e23_143 (fun _ => rfl) rfl ?_
                    refine w_ldL e23_145 (fun _ => rfl) rfl ?_
                    refine w_lst e23_147 (hM.2.2.2.2) (by omega) (by omega) (by decide) (fun v430 b428 h429 => ?_)
                    obtain ⟨F431, hd432, hM433⟩ : ∃ z, z = vp_updL F (x5).toNat l_2 ∧ pm a0 n K z v0 v430 := ⟨_, rfl, pm_F hM b428 h429⟩
                    refine w_ldL e23_148 (fun _ => rfl) rfl ?_
                    refine w_x e23_150 (fun _ => rfl) ?_
                    refine w_lcmp e23_151 (fun q434 (h435 : -1 ≤ q434 ∧ q434 ≤ 1) h436 h437 => ?_)
                    have hc438 : (q434 = 0 ↔ l_2.toInt = ((Int64.ofNat 0)).toInt) ∧ (q434 < 0 ↔ l_2.toInt < ((Int64.ofNat 0)).toInt) := lc_i h436 h437
                    have hc439 : (Int64.ofNat 0).toInt = 0 := rfl
                    refine w_if e23_152 (by omega) (fun (h440 : q434 ≠ 0) => ?_) (fun (h440 : q434 = 0) => ?_)
                    ·
                      refine w_kI e23_161 ?_
                      exfalso; omega
                    ·
                      refine w_ldA e23_155 (fun _ => rfl) rfl ?_
                      refine w_ldI e23_156 (fun _ => rfl) rfl ?_
                      refine w_cv e23_158 (by decide) rfl (hM433.2.2.1) rfl (Nat.le_of_ble_eq_true rfl) (Nat.le_of_ble_eq_true rfl) (Nat.le_of_ble_eq_true rfl) (by decide) (by decide) (c25x hM433 (by omega) (i1 := x5) (by omega) (by omega)) (fun o441 v442 hq443 => ?_)
                      obtain ⟨hM444, rfl⟩ := hq443
                      refine w_kI e23_161 ?_
                      exfalso; omega
                  ·
                    refine w_ldA e23_125 (fun _ => rfl) rfl ?_
                    refine w_ldI e23_126 (fun _ => rfl) rfl ?_
                    refine w_cv e23_128 (by decide) rfl (hM.2.2.1) rfl (Nat.le_of_ble_eq_true rfl) (Nat.le_of_ble_eq_true rfl) (Nat.le_of_ble_eq_true rfl) (by decide) (by decide) (c24x hM (by omega) (i1 := x5) (by omega) (by omega)) (fun o445 v446 hq447 => ?_)
                    obtain ⟨hM448, rfl⟩ := hq447
                    refine w_ldA e23_131 (fun _ => rfl) rfl ?_
                    refine w_get e23_132 hM448.2.2.1 rfl ?_
                    refine w_ldI e23_135 (fun _ => rfl) rfl ?_
                    refine w_ldL e23_137 (fun _ => rfl) rfl ?_
                    refine w_lst e23_138 (hM448.2.2.2.1) (by omega) (by omega) (by decide) (fun v451 b449 h450 => ?_)
                    obtain ⟨K452, hd453, hM454⟩ : ∃ z, z = vp_updL (va_cpy K K (x5 : Int).toNat (x5 + 1 : Int).toNat (n - x5 : Int).toNat) (x5).toNat l_1 ∧ pm a0 ((n + 1)) z ((va_cpy F F (x5 : Int).toNat (x5 + 1 : Int).toNat (n - x5 : Int).toNat)) v0 v451 := ⟨_, rfl, pm_K hM448 b449 h450⟩
                    refine w_ldA e23_139 (fun _ => rfl) rfl ?_
                    refine w_get e23_140 hM454.2.2.1 rfl ?_
                    refine w_ldI e23_143 (fun _ => rfl) rfl ?_
                    refine w_ldL e23_145 (fun _ => rfl) rfl ?_
                    refine w_lst e23_147 (hM454.2.2.2.2) (by omega) (by omega) (by decide) (fun v457 b455 h456 => ?_)
                    obtain ⟨F458, hd459, hM460⟩ : ∃ z, z = vp_updL (va_cpy F F (x5 : Int).toNat (x5 + 1 : Int).toNat (n - x5 : Int).toNat) (x5).toNat l_2 ∧ pm a0 ((n + 1)) K452 z v0 v457 := ⟨_, rfl, pm_F hM454 b455 h456⟩
                    refine w_ldL e23_148 (fun _ => rfl) rfl ?_
                    refine w_x e23_150 (fun _ => rfl) ?_
                    refine w_lcmp e23_151 (fun q461 (h462 : -1 ≤ q461 ∧ q461 ≤ 1) h463 h464 => ?_)
                    have hc465 : (q461 = 0 ↔ l_2.toInt = ((Int64.ofNat 0)).toInt) ∧ (q461 < 0 ↔ l_2.toInt < ((Int64.ofNat 0)).toInt) := lc_i h463 h464
                    have hc466 : (Int64.ofNat 0).toInt = 0 := rfl
                    refine w_if e23_152 (by omega) (fun (h467 : q461 ≠ 0) => ?_) (fun (h467 : q461 = 0) => ?_)
                    ·
                      refine w_kI e23_161 ?_
                      exfalso; omega
                    ·
                      refine w_ldA e23_155 (fun _ => rfl) rfl ?_
                      refine w_ldI e23_156 (fun _ => rfl) rfl ?_
                      refine w_cv e23_158 (by decide) rfl (hM460.2.2.1) rfl (Nat.le_of_ble_eq_true rfl) (Nat.le_of_ble_eq_true rfl) (Nat.le_of_ble_eq_true rfl) (by decide) (by decide) (c25x hM460 (by omega) (i1 := x5) (by omega) (by omega)) (fun o468 v469 hq470 => ?_)
                      obtain ⟨hM471, rfl⟩ := hq470
                      refine w_kI e23_161 ?_
                      exfalso; omega
                ·
                  refine w_ldA e23_109 (fun _ => rfl) rfl ?_
                  refine w_get e23_110 hM.2.2.1 rfl ?_
                  refine w_kB e23_113 rfl ?_
                  refine w_ic e23_115 (by omega) (by omega) (fun (h472 : n < 60) => ?_) (fun (h472 : 60 ≤ n) => ?_)
                  ·
                    refine w_ldI e23_120 (fun _ => rfl) rfl ?_
                    refine w_if e23_122 (by omega) (fun (h473 : 1 ≠ 0) => ?_) (fun (h473 : 1 = 0) => ?_)
                    ·
                      refine w_ldA e23_139 (fun _ => rfl) rfl ?_
                      refine w_get e23_140 hM.2.2.1 rfl ?_
                      refine w_ldI e23_143 (fun _ => rfl) rfl ?_
                      refine w_ldL e23_145 (fun _ => rfl) rfl ?_
                      refine w_lst e23_147 (hM.2.2.2.2) (by omega) (by omega) (by decide) (fun v476 b474 h475 => ?_)
                      obtain ⟨F477, hd478, hM479⟩ : ∃ z, z = vp_updL F (x5).toNat l_2 ∧ pm a0 n K z v0 v476 := ⟨_, rfl, pm_F hM b474 h475⟩
                      refine w_ldL e23_148 (fun _ => rfl) rfl ?_
                      refine w_x e23_150 (fun _ => rfl) ?_
                      refine w_lcmp e23_151 (fun q480 (h481 : -1 ≤ q480 ∧ q480 ≤ 1) h482 h483 => ?_)
                      have hc484 : (q480 = 0 ↔ l_2.toInt = ((Int64.ofNat 0)).toInt) ∧ (q480 < 0 ↔ l_2.toInt < ((Int64.ofNat 0)).toInt) := lc_i h482 h483
                      have hc485 : (Int64.ofNat 0).toInt = 0 := rfl
                      refine w_if e23_152 (by omega) (fun (h486 : q480 ≠ 0) => ?_) (fun (h486 : q480 = 0) => ?_)
                      ·
                        refine w_kI e23_161 ?_
                        exfalso; omega
                      ·
                        refine w_ldA e23_155 (fun _ => rfl) rfl ?_
                        refine w_ldI e23_156 (fun _ => rfl) rfl ?_
                        refine w_cv e23_158 (by decide) rfl (hM479.2.2.1) rfl (Nat.le_of_ble_eq_true rfl) (Nat.le_of_ble_eq_true rfl) (Nat.le_of_ble_eq_true rfl) (by decide) (by decide) (c25x hM479 (by omega) (i1 := x5) (by omega) (by omega)) (fun o487 v488 hq489 => ?_)
                        obtain ⟨hM490, rfl⟩ := hq489
                        refine w_kI e23_161 ?_
                        exfalso; omega
                    ·
                      refine w_ldA e23_125 (fun _ => rfl) rfl ?_
                      refine w_ldI e23_126 (fun _ => rfl) rfl ?_
                      refine w_cv e23_128 (by decide) rfl (hM.2.2.1) rfl (Nat.le_of_ble_eq_true rfl) (Nat.le_of_ble_eq_true rfl) (Nat.le_of_ble_eq_true rfl) (by decide) (by decide) (c24x hM (by omega) (i1 := x5) (by omega) (by omega)) (fun o491 v492 hq493 => ?_)
                      obtain ⟨hM494, rfl⟩ := hq493
                      refine w_ldA e23_131 (fun _ => rfl) rfl ?_
                      refine w_get e23_132 hM494.2.2.1 rfl ?_
                      refine w_ldI e23_135 (fun _ => rfl) rfl ?_
                      refine w_ldL e23_137 (fun _ => rfl) rfl ?_
                      refine w_lst e23_138 (hM494.2.2.2.1) (by omega) (by omega) (by decide) (fun v497 b495 h496 => ?_)
                      obtain ⟨K498, hd499, hM500⟩ : ∃ z, z = vp_updL (va_cpy K K (x5 : Int).toNat (x5 + 1 : Int).toNat (n - x5 : Int).toNat) (x5).toNat l_1 ∧ pm a0 ((n + 1)) z ((va_cpy F F (x5 : Int).toNat (x5 + 1 : Int).toNat (n - x5 : Int).toNat)) v0 v497 := ⟨_, rfl, pm_K hM494 b495 h496⟩
                      refine w_ldA e23_139 (fun _ => rfl) rfl ?_
                      refine w_get e23_140 hM500.2.2.1 rfl ?_
                      refine w_ldI e23_143 (fun _ => rfl) rfl ?_
                      refine w_ldL e23_145 (fun _ => rfl) rfl ?_
                      refine w_lst e23_147 (hM500.2.2.2.2) (by omega) (by omega) (by decide) (fun v503 b501 h502 => ?_)
                      obtain ⟨F504, hd505, hM506⟩ : ∃ z, z = vp_updL (va_cpy F F (x5 : Int).toNat (x5 + 1 : Int).toNat (n - x5 : Int).toNat) (x5).toNat l_2 ∧ pm a0 ((n + 1)) K498 z v0 v503 := ⟨_, rfl, pm_F hM500 b501 h502⟩
                      refine w_ldL e23_148 (fun _ => rfl) rfl ?_
                      refine w_x e23_150 (fun _ => rfl) ?_
                      refine w_lcmp e23_151 (fun q507 (h508 : -1 ≤ q507 ∧ q507 ≤ 1) h509 h510 => ?_)
                      have hc511 : (q507 = 0 ↔ l_2.toInt = ((Int64.ofNat 0)).toInt) ∧ (q507 < 0 ↔ l_2.toInt < ((Int64.ofNat 0)).toInt) := lc_i h509 h510
                      have hc512 : (Int64.ofNat 0).toInt = 0 := rfl
                      refine w_if e23_152 (by omega) (fun (h513 : q507 ≠ 0) => ?_) (fun (h513 : q507 = 0) => ?_)
                      ·
                        refine w_kI e23_161 ?_
                        exfalso; omega
                      ·
                        refine w_ldA e23_155 (fun _ => rfl) rfl ?_
                        refine w_ldI e23_156 (fun _ => rfl) rfl ?_
                        refine w_cv e23_158 (by decide) rfl (hM506.2.2.1) rfl (Nat.le_of_ble_eq_true rfl) (Nat.le_of_ble_eq_true rfl) (Nat.le_of_ble_eq_true rfl) (by decide) (by decide) (c25x hM506 (by omega) (i1 := x5) (by omega) (by omega)) (fun o514 v515 hq516 => ?_)
                        obtain ⟨hM517, rfl⟩ := hq516
                        refine w_kI e23_161 ?_
                        exfalso; omega
                  ·
                    refine w_kI e23_118 ?_
                    exfalso; omega
            ·
              refine w_ldA e23_81 (fun _ => rfl) rfl ?_
              refine w_get e23_82 hM.2.2.1 rfl ?_
              refine w_ldI e23_85 (fun _ => rfl) rfl ?_
              refine w_lld e23_87 (hM.2.2.2.2) (by omega) (by omega) (by decide) ?_
              have hg9 := hgl (x5).toNat (by omega)
              have hg8 := hg9.2
              refine w_ldL e23_88 (fun _ => rfl) rfl ?_
              refine w_x e23_89 (fun _ => rfl) ?_
              have hl518 := l_add (x := ((F (x5).toNat))) (y := l_2) (by omega) (by omega)
              refine w_x e23_90 (fun _ => rfl) ?_
              refine w_stL (j := 7) (A1 := [some (.ref a0), some (.long l_1), none, some (.long l_2), none, some (.int (vz x5)), some (.int (vz 1)), some (.long ((((F (x5).toNat)) + l_2))), none]) e23_94 (fun _ => rfl) (by decide) rfl ?_
              refine w_ldL e23_96 (fun _ => rfl) rfl ?_
              refine w_cs e23_98 (by decide) (Nat.le_of_ble_eq_true rfl) (Nat.le_of_ble_eq_true rfl) (Nat.le_of_ble_eq_true rfl) (by decide) (by decide) c74x (fun o519 v520 hq521 => ?_)
              obtain ⟨rfl, q522, h523, rfl⟩ := hq521
              refine w_if e23_101 (by omega) (fun (h524 : q522 = 0) => ?_) (fun (h524 : q522 ≠ 0) => ?_)
              ·
                refine w_kI e23_118 ?_
                exact w_rz e23_119 rfl (by omega) ⟨0, n, K, F, x5, hM, Or.inr ⟨hvr, ⟨by omega, hi0, fun h9 => by omega⟩, Or.inl ⟨rfl, rfl, rfl, rfl, Or.inl ⟨⟨by omega, hkn⟩, fun h9 => by unfold sr at h9; omega⟩⟩⟩, rfl⟩
              ·
                refine w_ldI e23_104 (fun _ => rfl) rfl ?_
                refine w_if e23_106 (by omega) (fun (h525 : 1 ≠ 0) => ?_) (fun (h525 : 1 = 0) => ?_)
                ·
                  refine w_ldI e23_120 (fun _ => rfl) rfl ?_
                  refine w_if e23_122 (by omega) (fun (h526 : 1 ≠ 0) => ?_) (fun (h526 : 1 = 0) => ?_)
                  ·
                    refine w_ldA e23_139 (fun _ => rfl) rfl ?_
                    refine w_get e23_140 hM.2.2.1 rfl ?_
                    refine w_ldI e23_143 (fun _ => rfl) rfl ?_
                    refine w_ldL e23_145 (fun _ => rfl) rfl ?_
                    refine w_lst e23_147 (hM.2.2.2.2) (by omega) (by omega) (by decide) (fun v529 b527 h528 => ?_)
                    obtain ⟨F530, hd531, hM532⟩ : ∃ z, z = vp_updL F (x5).toNat ((((F (x5).toNat)) + l_2)) ∧ pm a0 n K z v0 v529 := ⟨_, rfl, pm_F hM b527 h528⟩
                    refine w_ldL e23_148 (fun _ => rfl) rfl ?_
                    refine w_x e23_150 (fun _ => rfl) ?_
                    refine w_lcmp e23_151 (fun q533 (h534 : -1 ≤ q533 ∧ q533 ≤ 1) h535 h536 => ?_)
                    have hc537 : (q533 = 0 ↔ ((((F (x5).toNat)) + l_2)).toInt = ((Int64.ofNat 0)).toInt) ∧ (q533 < 0 ↔ ((((F (x5).toNat)) + l_2)).toInt < ((Int64.ofNat 0)).toInt) := lc_i h535 h536
                    have hc538 : (Int64.ofNat 0).toInt = 0 := rfl
                    refine w_if e23_152 (by omega) (fun (h539 : q533 ≠ 0) => ?_) (fun (h539 : q533 = 0) => ?_)
                    ·
                      refine w_kI e23_161 ?_
                      exact w_rz e23_162 rfl (by omega) ⟨1, n, K, F530, x5, hM532, Or.inr ⟨hvr, ⟨by omega, hi0, fun h9 => by omega⟩, Or.inr (Or.inr (Or.inl ⟨rfl, ⟨by omega, hkn⟩, by unfold sr; omega, by omega, rfl, rfl, hd531⟩))⟩, rfl⟩
                    ·
                      refine w_ldA e23_155 (fun _ => rfl) rfl ?_
                      refine w_ldI e23_156 (fun _ => rfl) rfl ?_
                      refine w_cv e23_158 (by decide) rfl (hM532.2.2.1) rfl (Nat.le_of_ble_eq_true rfl) (Nat.le_of_ble_eq_true rfl) (Nat.le_of_ble_eq_true rfl) (by decide) (by decide) (c25x hM532 (by omega) (i1 := x5) (by omega) (by omega)) (fun o540 v541 hq542 => ?_)
                      obtain ⟨hM543, rfl⟩ := hq542
                      refine w_kI e23_161 ?_
                      exact w_rz e23_162 rfl (by omega) ⟨1, (n - 1), (va_cpy K K (x5 + 1 : Int).toNat (x5 : Int).toNat (n - x5 - 1 : Int).toNat), (va_cpy F530 F530 (x5 + 1 : Int).toNat (x5 : Int).toNat (n - x5 - 1 : Int).toNat), x5, hM543, Or.inr ⟨hvr, ⟨by omega, hi0, fun h9 => by omega⟩, Or.inr (Or.inr (Or.inr ⟨rfl, ⟨by omega, hkn⟩, by omega, rfl, rfl, by rw [hd531]⟩))⟩, rfl⟩
                  ·
                    refine w_ldA e23_125 (fun _ => rfl) rfl ?_
                    refine w_ldI e23_126 (fun _ => rfl) rfl ?_
                    refine w_cv e23_128 (by decide) rfl (hM.2.2.1) rfl (Nat.le_of_ble_eq_true rfl) (Nat.le_of_ble_eq_true rfl) (Nat.le_of_ble_eq_true rfl) (by decide) (by decide) (c24x hM (by omega) (i1 := x5) (by omega) (by omega)) (fun o544 v545 hq546 => ?_)
                    obtain ⟨hM547, rfl⟩ := hq546
                    refine w_ldA e23_131 (fun _ => rfl) rfl ?_
                    refine w_get e23_132 hM547.2.2.1 rfl ?_
                    refine w_ldI e23_135 (fun _ => rfl) rfl ?_
                    refine w_ldL e23_137 (fun _ => rfl) rfl ?_
                    refine w_lst e23_138 (hM547.2.2.2.1) (by omega) (by omega) (by decide) (fun v550 b548 h549 => ?_)
                    obtain ⟨K551, hd552, hM553⟩ : ∃ z, z = vp_updL (va_cpy K K (x5 : Int).toNat (x5 + 1 : Int).toNat (n - x5 : Int).toNat) (x5).toNat l_1 ∧ pm a0 ((n + 1)) z ((va_cpy F F (x5 : Int).toNat (x5 + 1 : Int).toNat (n - x5 : Int).toNat)) v0 v550 := ⟨_, rfl, pm_K hM547 b548 h549⟩
                    refine w_ldA e23_139 (fun _ => rfl) rfl ?_
                    refine w_get e23_140 hM553.2.2.1 rfl ?_
                    refine w_ldI e23_143 (fun _ => rfl) rfl ?_
                    refine w_ldL e23_145 (fun _ => rfl) rfl ?_
                    refine w_lst e23_147 (hM553.2.2.2.2) (by omega) (by omega) (by decide) (fun v556 b554 h555 => ?_)
                    obtain ⟨F557, hd558, hM559⟩ : ∃ z, z = vp_updL (va_cpy F F (x5 : Int).toNat (x5 + 1 : Int).toNat (n - x5 : Int).toNat) (x5).toNat ((((F (x5).toNat)) + l_2)) ∧ pm a0 ((n + 1)) K551 z v0 v556 := ⟨_, rfl, pm_F hM553 b554 h555⟩
                    refine w_ldL e23_148 (fun _ => rfl) rfl ?_
                    refine w_x e23_150 (fun _ => rfl) ?_
                    refine w_lcmp e23_151 (fun q560 (h561 : -1 ≤ q560 ∧ q560 ≤ 1) h562 h563 => ?_)
                    have hc564 : (q560 = 0 ↔ ((((F (x5).toNat)) + l_2)).toInt = ((Int64.ofNat 0)).toInt) ∧ (q560 < 0 ↔ ((((F (x5).toNat)) + l_2)).toInt < ((Int64.ofNat 0)).toInt) := lc_i h562 h563
                    have hc565 : (Int64.ofNat 0).toInt = 0 := rfl
                    refine w_if e23_152 (by omega) (fun (h566 : q560 ≠ 0) => ?_) (fun (h566 : q560 = 0) => ?_)
                    ·
                      refine w_kI e23_161 ?_
                      exfalso; omega
                    ·
                      refine w_ldA e23_155 (fun _ => rfl) rfl ?_
                      refine w_ldI e23_156 (fun _ => rfl) rfl ?_
                      refine w_cv e23_158 (by decide) rfl (hM559.2.2.1) rfl (Nat.le_of_ble_eq_true rfl) (Nat.le_of_ble_eq_true rfl) (Nat.le_of_ble_eq_true rfl) (by decide) (by decide) (c25x hM559 (by omega) (i1 := x5) (by omega) (by omega)) (fun o567 v568 hq569 => ?_)
                      obtain ⟨hM570, rfl⟩ := hq569
                      refine w_kI e23_161 ?_
                      exfalso; omega
                ·
                  refine w_ldA e23_109 (fun _ => rfl) rfl ?_
                  refine w_get e23_110 hM.2.2.1 rfl ?_
                  refine w_kB e23_113 rfl ?_
                  refine w_ic e23_115 (by omega) (by omega) (fun (h571 : n < 60) => ?_) (fun (h571 : 60 ≤ n) => ?_)
                  ·
                    refine w_ldI e23_120 (fun _ => rfl) rfl ?_
                    refine w_if e23_122 (by omega) (fun (h572 : 1 ≠ 0) => ?_) (fun (h572 : 1 = 0) => ?_)
                    ·
                      refine w_ldA e23_139 (fun _ => rfl) rfl ?_
                      refine w_get e23_140 hM.2.2.1 rfl ?_
                      refine w_ldI e23_143 (fun _ => rfl) rfl ?_
                      refine w_ldL e23_145 (fun _ => rfl) rfl ?_
                      refine w_lst e23_147 (hM.2.2.2.2) (by omega) (by omega) (by decide) (fun v575 b573 h574 => ?_)
                      obtain ⟨F576, hd577, hM578⟩ : ∃ z, z = vp_updL F (x5).toNat ((((F (x5).toNat)) + l_2)) ∧ pm a0 n K z v0 v575 := ⟨_, rfl, pm_F hM b573 h574⟩
                      refine w_ldL e23_148 (fun _ => rfl) rfl ?_
                      refine w_x e23_150 (fun _ => rfl) ?_
                      refine w_lcmp e23_151 (fun q579 (h580 : -1 ≤ q579 ∧ q579 ≤ 1) h581 h582 => ?_)
                      have hc583 : (q579 = 0 ↔ ((((F (x5).toNat)) + l_2)).toInt = ((Int64.ofNat 0)).toInt) ∧ (q579 < 0 ↔ ((((F (x5).toNat)) + l_2)).toInt < ((Int64.ofNat 0)).toInt) := lc_i h581 h582
                      have hc584 : (Int64.ofNat 0).toInt = 0 := rfl
                      refine w_if e23_152 (by omega) (fun (h585 : q579 ≠ 0) => ?_) (fun (h585 : q579 = 0) => ?_)
                      ·
                        refine w_kI e23_161 ?_
                        exact w_rz e23_162 rfl (by omega) ⟨1, n, K, F576, x5, hM578, Or.inr ⟨hvr, ⟨by omega, hi0, fun h9 => by omega⟩, Or.inr (Or.inr (Or.inl ⟨rfl, ⟨by omega, hkn⟩, by unfold sr; omega, by omega, rfl, rfl, hd577⟩))⟩, rfl⟩
                      ·
                        refine w_ldA e23_155 (fun _ => rfl) rfl ?_
                        refine w_ldI e23_156 (fun _ => rfl) rfl ?_
                        refine w_cv e23_158 (by decide) rfl (hM578.2.2.1) rfl (Nat.le_of_ble_eq_true rfl) (Nat.le_of_ble_eq_true rfl) (Nat.le_of_ble_eq_true rfl) (by decide) (by decide) (c25x hM578 (by omega) (i1 := x5) (by omega) (by omega)) (fun o586 v587 hq588 => ?_)
                        obtain ⟨hM589, rfl⟩ := hq588
                        refine w_kI e23_161 ?_
                        exact w_rz e23_162 rfl (by omega) ⟨1, (n - 1), (va_cpy K K (x5 + 1 : Int).toNat (x5 : Int).toNat (n - x5 - 1 : Int).toNat), (va_cpy F576 F576 (x5 + 1 : Int).toNat (x5 : Int).toNat (n - x5 - 1 : Int).toNat), x5, hM589, Or.inr ⟨hvr, ⟨by omega, hi0, fun h9 => by omega⟩, Or.inr (Or.inr (Or.inr ⟨rfl, ⟨by omega, hkn⟩, by omega, rfl, rfl, by rw [hd577]⟩))⟩, rfl⟩
                    ·
                      refine w_ldA e23_125 (fun _ => rfl) rfl ?_
                      refine w_ldI e23_126 (fun _ => rfl) rfl ?_
                      refine w_cv e23_128 (by decide) rfl (hM.2.2.1) rfl (Nat.le_of_ble_eq_true rfl) (Nat.le_of_ble_eq_true rfl) (Nat.le_of_ble_eq_true rfl) (by decide) (by decide) (c24x hM (by omega) (i1 := x5) (by omega) (by omega)) (fun o590 v591 hq592 => ?_)
                      obtain ⟨hM593, rfl⟩ := hq592
                      refine w_ldA e23_131 (fun _ => rfl) rfl ?_
                      refine w_get e23_132 hM593.2.2.1 rfl ?_
                      refine w_ldI e23_135 (fun _ => rfl) rfl ?_
                      refine w_ldL e23_137 (fun _ => rfl) rfl ?_
                      refine w_lst e23_138 (hM593.2.2.2.1) (by omega) (by omega) (by decide) (fun v596 b594 h595 => ?_)
                      obtain ⟨K597, hd598, hM599⟩ : ∃ z, z = vp_updL (va_cpy K K (x5 : Int).toNat (x5 + 1 : Int).toNat (n - x5 : Int).toNat) (x5).toNat l_1 ∧ pm a0 ((n + 1)) z ((va_cpy F F (x5 : Int).toNat (x5 + 1 : Int).toNat (n - x5 : Int).toNat)) v0 v596 := ⟨_, rfl, pm_K hM593 b594 h595⟩
                      refine w_ldA e23_139 (fun _ => rfl) rfl ?_
                      refine w_get e23_140 hM599.2.2.1 rfl ?_
                      refine w_ldI e23_143 (fun _ => rfl) rfl ?_
                      refine w_ldL e23_145 (fun _ => rfl) rfl ?_
                      refine w_lst e23_147 (hM599.2.2.2.2) (by omega) (by omega) (by decide) (fun v602 b600 h601 => ?_)
                      obtain ⟨F603, hd604, hM605⟩ : ∃ z, z = vp_updL (va_cpy F F (x5 : Int).toNat (x5 + 1 : Int).toNat (n - x5 : Int).toNat) (x5).toNat ((((F (x5).toNat)) + l_2)) ∧ pm a0 ((n + 1)) K597 z v0 v602 := ⟨_, rfl, pm_F hM599 b600 h601⟩
                      refine w_ldL e23_148 (fun _ => rfl) rfl ?_
                      refine w_x e23_150 (fun _ => rfl) ?_
                      refine w_lcmp e23_151 (fun q606 (h607 : -1 ≤ q606 ∧ q606 ≤ 1) h608 h609 => ?_)
                      have hc610 : (q606 = 0 ↔ ((((F (x5).toNat)) + l_2)).toInt = ((Int64.ofNat 0)).toInt) ∧ (q606 < 0 ↔ ((((F (x5).toNat)) + l_2)).toInt < ((Int64.ofNat 0)).toInt) := lc_i h608 h609
                      have hc611 : (Int64.ofNat 0).toInt = 0 := rfl
                      refine w_if e23_152 (by omega) (fun (h612 : q606 ≠ 0) => ?_) (fun (h612 : q606 = 0) => ?_)
                      ·
                        refine w_kI e23_161 ?_
                        exfalso; omega
                      ·
                        refine w_ldA e23_155 (fun _ => rfl) rfl ?_
                        refine w_ldI e23_156 (fun _ => rfl) rfl ?_
                        refine w_cv e23_158 (by decide) rfl (hM605.2.2.1) rfl (Nat.le_of_ble_eq_true rfl) (Nat.le_of_ble_eq_true rfl) (Nat.le_of_ble_eq_true rfl) (by decide) (by decide) (c25x hM605 (by omega) (i1 := x5) (by omega) (by omega)) (fun o613 v614 hq615 => ?_)
                        obtain ⟨hM616, rfl⟩ := hq615
                        refine w_kI e23_161 ?_
                        exfalso; omega
                  ·
                    refine w_kI e23_118 ?_
                    exact w_rz e23_119 rfl (by omega) ⟨0, n, K, F, x5, hM, Or.inr ⟨hvr, ⟨by omega, hi0, fun h9 => by omega⟩, Or.inl ⟨rfl, rfl, rfl, rfl, Or.inl ⟨⟨by omega, hkn⟩, fun h9 => by unfold sr at h9; omega⟩⟩⟩, rfl⟩
      ·
        refine w_ldA e23_30 (fun _ => rfl) rfl ?_
        refine w_get e23_31 hM.2.2.1 rfl ?_
        refine w_ldI e23_34 (fun _ => rfl) rfl ?_
        refine w_lld e23_36 (hM.2.2.2.1) (by omega) (by omega) (by decide) ?_
        refine w_ldL e23_37 (fun _ => rfl) rfl ?_
        refine w_lcmp e23_38 (fun q617 (h618 : -1 ≤ q617 ∧ q617 ≤ 1) h619 h620 => ?_)
        have hc621 : (q617 = 0 ↔ ((K (x5).toNat)).toInt = l_1.toInt) ∧ (q617 < 0 ↔ ((K (x5).toNat)).toInt < l_1.toInt) := lc_i h619 h620
        refine w_if e23_39 (by omega) (fun (h622 : q617 ≤ 0) => ?_) (fun (h622 : 0 < q617) => ?_)
        ·
          refine w_ldI e23_48 (fun _ => rfl) rfl ?_
          refine w_ldA e23_50 (fun _ => rfl) rfl ?_
          refine w_get e23_51 hM.2.2.1 rfl ?_
          refine w_ic e23_54 (by omega) (by omega) (fun (h623 : n ≤ x5) => ?_) (fun (h623 : x5 < n) => ?_)
          ·
            refine w_kI e23_73 ?_
            refine w_stI (j := 6) (A1 := [some (.ref a0), some (.long l_1), none, some (.long l_2), none, some (.int (vz x5)), some (.int (vz 0)), none, none]) e23_74 (fun _ => rfl) (by decide) rfl ?_
            refine w_ldI e23_76 (fun _ => rfl) rfl ?_
            refine w_if e23_78 (by omega) (fun (h624 : 0 = 0) => ?_) (fun (h624 : 0 ≠ 0) => ?_)
            ·
              refine w_ldL e23_93 (fun _ => rfl) rfl ?_
              refine w_stL (j := 7) (A1 := [some (.ref a0), some (.long l_1), none, some (.long l_2), none, some (.int (vz x5)), some (.int (vz 0)), some (.long l_2), none]) e23_94 (fun _ => rfl) (by decide) rfl ?_
              refine w_ldL e23_96 (fun _ => rfl) rfl ?_
              refine w_cs e23_98 (by decide) (Nat.le_of_ble_eq_true rfl) (Nat.le_of_ble_eq_true rfl) (Nat.le_of_ble_eq_true rfl) (by decide) (by decide) c74x (fun o625 v626 hq627 => ?_)
              obtain ⟨rfl, q628, h629, rfl⟩ := hq627
              refine w_if e23_101 (by omega) (fun (h630 : q628 = 0) => ?_) (fun (h630 : q628 ≠ 0) => ?_)
              ·
                refine w_kI e23_118 ?_
                exact w_rz e23_119 rfl (by omega) ⟨0, n, K, F, x5, hM, Or.inr ⟨hvr, ⟨by omega, hi0, fun h9 => by omega⟩, Or.inl ⟨rfl, rfl, rfl, rfl, Or.inr ⟨fun h9 => absurd h9.1 (by omega), by unfold sr; omega⟩⟩⟩, rfl⟩
              ·
                refine w_ldI e23_104 (fun _ => rfl) rfl ?_
                refine w_if e23_106 (by omega) (fun (h631 : 0 ≠ 0) => ?_) (fun (h631 : 0 = 0) => ?_)
                ·
                  refine w_ldI e23_120 (fun _ => rfl) rfl ?_
                  refine w_if e23_122 (by omega) (fun (h632 : 0 ≠ 0) => ?_) (fun (h632 : 0 = 0) => ?_)
                  ·
                    refine w_ldA e23_139 (fun _ => rfl) rfl ?_
                    refine w_get e23_140 hM.2.2.1 rfl ?_
                    refine w_ldI e23_143 (fun _ => rfl) rfl ?_
                    refine w_ldL e23_145 (fun _ => rfl) rfl ?_
                    refine w_lst e23_147 (hM.2.2.2.2) (by omega) (by omega) (by decide) (fun v635 b633 h634 => ?_)
                    obtain ⟨F636, hd637, hM638⟩ : ∃ z, z = vp_updL F (x5).toNat l_2 ∧ pm a0 n K z v0 v635 := ⟨_, rfl, pm_F hM b633 h634⟩
                    refine w_ldL e23_148 (fun _ => rfl) rfl ?_
                    refine w_x e23_150 (fun _ => rfl) ?_
                    refine w_lcmp e23_151 (fun q639 (h640 : -1 ≤ q639 ∧ q639 ≤ 1) h641 h642 => ?_)
                    have hc643 : (q639 = 0 ↔ l_2.toInt = ((Int64.ofNat 0)).toInt) ∧ (q639 < 0 ↔ l_2.toInt < ((Int64.ofNat 0)).toInt) := lc_i h641 h642
                    have hc644 : (Int64.ofNat 0).toInt = 0 := rfl
                    refine w_if e23_152 (by omega) (fun (h645 : q639 ≠ 0) => ?_) (fun (h645 : q639 = 0) => ?_)
                    ·
                      refine w_kI e23_161 ?_
                      exfalso; omega
                    ·
                      refine w_ldA e23_155 (fun _ => rfl) rfl ?_
                      refine w_ldI e23_156 (fun _ => rfl) rfl ?_
                      refine w_cv e23_158 (by decide) rfl (hM638.2.2.1) rfl (Nat.le_of_ble_eq_true rfl) (Nat.le_of_ble_eq_true rfl) (Nat.le_of_ble_eq_true rfl) (by decide) (by decide) (c25x hM638 (by omega) (i1 := x5) (by omega) (by omega)) (fun o646 v647 hq648 => ?_)
                      obtain ⟨hM649, rfl⟩ := hq648
                      refine w_kI e23_161 ?_
                      exfalso; omega
                  ·
                    refine w_ldA e23_125 (fun _ => rfl) rfl ?_
                    refine w_ldI e23_126 (fun _ => rfl) rfl ?_
                    refine w_cv e23_128 (by decide) rfl (hM.2.2.1) rfl (Nat.le_of_ble_eq_true rfl) (Nat.le_of_ble_eq_true rfl) (Nat.le_of_ble_eq_true rfl) (by decide) (by decide) (c24x hM (by omega) (i1 := x5) (by omega) (by omega)) (fun o650 v651 hq652 => ?_)
                    obtain ⟨hM653, rfl⟩ := hq652
                    refine w_ldA e23_131 (fun _ => rfl) rfl ?_
                    refine w_get e23_132 hM653.2.2.1 rfl ?_
                    refine w_ldI e23_135 (fun _ => rfl) rfl ?_
                    refine w_ldL e23_137 (fun _ => rfl) rfl ?_
                    refine w_lst e23_138 (hM653.2.2.2.1) (by omega) (by omega) (by decide) (fun v656 b654 h655 => ?_)
                    obtain ⟨K657, hd658, hM659⟩ : ∃ z, z = vp_updL (va_cpy K K (x5 : Int).toNat (x5 + 1 : Int).toNat (n - x5 : Int).toNat) (x5).toNat l_1 ∧ pm a0 ((n + 1)) z ((va_cpy F F (x5 : Int).toNat (x5 + 1 : Int).toNat (n - x5 : Int).toNat)) v0 v656 := ⟨_, rfl, pm_K hM653 b654 h655⟩
                    refine w_ldA e23_139 (fun _ => rfl) rfl ?_
                    refine w_get e23_140 hM659.2.2.1 rfl ?_
                    refine w_ldI e23_143 (fun _ => rfl) rfl ?_
                    refine w_ldL e23_145 (fun _ => rfl) rfl ?_
                    refine w_lst e23_147 (hM659.2.2.2.2) (by omega) (by omega) (by decide) (fun v662 b660 h661 => ?_)
                    obtain ⟨F663, hd664, hM665⟩ : ∃ z, z = vp_updL (va_cpy F F (x5 : Int).toNat (x5 + 1 : Int).toNat (n - x5 : Int).toNat) (x5).toNat l_2 ∧ pm a0 ((n + 1)) K657 z v0 v662 := ⟨_, rfl, pm_F hM659 b660 h661⟩
                    refine w_ldL e23_148 (fun _ => rfl) rfl ?_
                    refine w_x e23_150 (fun _ => rfl) ?_
                    refine w_lcmp e23_151 (fun q666 (h667 : -1 ≤ q666 ∧ q666 ≤ 1) h668 h669 => ?_)
                    have hc670 : (q666 = 0 ↔ l_2.toInt = ((Int64.ofNat 0)).toInt) ∧ (q666 < 0 ↔ l_2.toInt < ((Int64.ofNat 0)).toInt) := lc_i h668 h669
                    have hc671 : (Int64.ofNat 0).toInt = 0 := rfl
                    refine w_if e23_152 (by omega) (fun (h672 : q666 ≠ 0) => ?_) (fun (h672 : q666 = 0) => ?_)
                    ·
                      refine w_kI e23_161 ?_
                      exact w_rz e23_162 rfl (by omega) ⟨1, (n + 1), K657, F663, x5, hM665, Or.inr ⟨hvr, ⟨by omega, hi0, fun h9 => by omega⟩, Or.inr (Or.inl ⟨rfl, fun h9 => absurd h9.1 (by omega), by unfold sr; omega, by omega, rfl, hd658, hd664⟩)⟩, rfl⟩
                    ·
                      refine w_ldA e23_155 (fun _ => rfl) rfl ?_
                      refine w_ldI e23_156 (fun _ => rfl) rfl ?_
                      refine w_cv e23_158 (by decide) rfl (hM665.2.2.1) rfl (Nat.le_of_ble_eq_true rfl) (Nat.le_of_ble_eq_true rfl) (Nat.le_of_ble_eq_true rfl) (by decide) (by decide) (c25x hM665 (by omega) (i1 := x5) (by omega) (by omega)) (fun o673 v674 hq675 => ?_)
                      obtain ⟨hM676, rfl⟩ := hq675
                      refine w_kI e23_161 ?_
                      exfalso; omega
                ·
                  refine w_ldA e23_109 (fun _ => rfl) rfl ?_
                  refine w_get e23_110 hM.2.2.1 rfl ?_
                  refine w_kB e23_113 rfl ?_
                  refine w_ic e23_115 (by omega) (by omega) (fun (h677 : n < 60) => ?_) (fun (h677 : 60 ≤ n) => ?_)
                  ·
                    refine w_ldI e23_120 (fun _ => rfl) rfl ?_
                    refine w_if e23_122 (by omega) (fun (h678 : 0 ≠ 0) => ?_) (fun (h678 : 0 = 0) => ?_)
                    ·
                      refine w_ldA e23_139 (fun _ => rfl) rfl ?_
                      refine w_get e23_140 hM.2.2.1 rfl ?_
                      refine w_ldI e23_143 (fun _ => rfl) rfl ?_
                      refine w_ldL e23_145 (fun _ => rfl) rfl ?_
                      refine w_lst e23_147 (hM.2.2.2.2) (by omega) (by omega) (by decide) (fun v681 b679 h680 => ?_)
                      obtain ⟨F682, hd683, hM684⟩ : ∃ z, z = vp_updL F (x5).toNat l_2 ∧ pm a0 n K z v0 v681 := ⟨_, rfl, pm_F hM b679 h680⟩
                      refine w_ldL e23_148 (fun _ => rfl) rfl ?_
                      refine w_x e23_150 (fun _ => rfl) ?_
                      refine w_lcmp e23_151 (fun q685 (h686 : -1 ≤ q685 ∧ q685 ≤ 1) h687 h688 => ?_)
                      have hc689 : (q685 = 0 ↔ l_2.toInt = ((Int64.ofNat 0)).toInt) ∧ (q685 < 0 ↔ l_2.toInt < ((Int64.ofNat 0)).toInt) := lc_i h687 h688
                      have hc690 : (Int64.ofNat 0).toInt = 0 := rfl
                      refine w_if e23_152 (by omega) (fun (h691 : q685 ≠ 0) => ?_) (fun (h691 : q685 = 0) => ?_)
                      ·
                        refine w_kI e23_161 ?_
                        exfalso; omega
                      ·
                        refine w_ldA e23_155 (fun _ => rfl) rfl ?_
                        refine w_ldI e23_156 (fun _ => rfl) rfl ?_
                        refine w_cv e23_158 (by decide) rfl (hM684.2.2.1) rfl (Nat.le_of_ble_eq_true rfl) (Nat.le_of_ble_eq_true rfl) (Nat.le_of_ble_eq_true rfl) (by decide) (by decide) (c25x hM684 (by omega) (i1 := x5) (by omega) (by omega)) (fun o692 v693 hq694 => ?_)
                        obtain ⟨hM695, rfl⟩ := hq694
                        refine w_kI e23_161 ?_
                        exfalso; omega
                    ·
                      refine w_ldA e23_125 (fun _ => rfl) rfl ?_
                      refine w_ldI e23_126 (fun _ => rfl) rfl ?_
                      refine w_cv e23_128 (by decide) rfl (hM.2.2.1) rfl (Nat.le_of_ble_eq_true rfl) (Nat.le_of_ble_eq_true rfl) (Nat.le_of_ble_eq_true rfl) (by decide) (by decide) (c24x hM (by omega) (i1 := x5) (by omega) (by omega)) (fun o696 v697 hq698 => ?_)
                      obtain ⟨hM699, rfl⟩ := hq698
                      refine w_ldA e23_131 (fun _ => rfl) rfl ?_
                      refine w_get e23_132 hM699.2.2.1 rfl ?_
                      refine w_ldI e23_135 (fun _ => rfl) rfl ?_
                      refine w_ldL e23_137 (fun _ => rfl) rfl ?_
                      refine w_lst e23_138 (hM699.2.2.2.1) (by omega) (by omega) (by decide) (fun v702 b700 h701 => ?_)
                      obtain ⟨K703, hd704, hM705⟩ : ∃ z, z = vp_updL (va_cpy K K (x5 : Int).toNat (x5 + 1 : Int).toNat (n - x5 : Int).toNat) (x5).toNat l_1 ∧ pm a0 ((n + 1)) z ((va_cpy F F (x5 : Int).toNat (x5 + 1 : Int).toNat (n - x5 : Int).toNat)) v0 v702 := ⟨_, rfl, pm_K hM699 b700 h701⟩
                      refine w_ldA e23_139 (fun _ => rfl) rfl ?_
                      refine w_get e23_140 hM705.2.2.1 rfl ?_
                      refine w_ldI e23_143 (fun _ => rfl) rfl ?_
                      refine w_ldL e23_145 (fun _ => rfl) rfl ?_
                      refine w_lst e23_147 (hM705.2.2.2.2) (by omega) (by omega) (by decide) (fun v708 b706 h707 => ?_)
                      obtain ⟨F709, hd710, hM711⟩ : ∃ z, z = vp_updL (va_cpy F F (x5 : Int).toNat (x5 + 1 : Int).toNat (n - x5 : Int).toNat) (x5).toNat l_2 ∧ pm a0 ((n + 1)) K703 z v0 v708 := ⟨_, rfl, pm_F hM705 b706 h707⟩
                      refine w_ldL e23_148 (fun _ => rfl) rfl ?_
                      refine w_x e23_150 (fun _ => rfl) ?_
                      refine w_lcmp e23_151 (fun q712 (h713 : -1 ≤ q712 ∧ q712 ≤ 1) h714 h715 => ?_)
                      have hc716 : (q712 = 0 ↔ l_2.toInt = ((Int64.ofNat 0)).toInt) ∧ (q712 < 0 ↔ l_2.toInt < ((Int64.ofNat 0)).toInt) := lc_i h714 h715
                      have hc717 : (Int64.ofNat 0).toInt = 0 := rfl
                      refine w_if e23_152 (by omega) (fun (h718 : q712 ≠ 0) => ?_) (fun (h718 : q712 = 0) => ?_)
                      ·
                        refine w_kI e23_161 ?_
                        exact w_rz e23_162 rfl (by omega) ⟨1, (n + 1), K703, F709, x5, hM711, Or.inr ⟨hvr, ⟨by omega, hi0, fun h9 => by omega⟩, Or.inr (Or.inl ⟨rfl, fun h9 => absurd h9.1 (by omega), by unfold sr; omega, by omega, rfl, hd704, hd710⟩)⟩, rfl⟩
                      ·
                        refine w_ldA e23_155 (fun _ => rfl) rfl ?_
                        refine w_ldI e23_156 (fun _ => rfl) rfl ?_
                        refine w_cv e23_158 (by decide) rfl (hM711.2.2.1) rfl (Nat.le_of_ble_eq_true rfl) (Nat.le_of_ble_eq_true rfl) (Nat.le_of_ble_eq_true rfl) (by decide) (by decide) (c25x hM711 (by omega) (i1 := x5) (by omega) (by omega)) (fun o719 v720 hq721 => ?_)
                        obtain ⟨hM722, rfl⟩ := hq721
                        refine w_kI e23_161 ?_
                        exfalso; omega
                  ·
                    refine w_kI e23_118 ?_
                    exact w_rz e23_119 rfl (by omega) ⟨0, n, K, F, x5, hM, Or.inr ⟨hvr, ⟨by omega, hi0, fun h9 => by omega⟩, Or.inl ⟨rfl, rfl, rfl, rfl, Or.inr ⟨fun h9 => absurd h9.1 (by omega), by unfold sr; omega⟩⟩⟩, rfl⟩
            ·
              refine w_ldA e23_81 (fun _ => rfl) rfl ?_
              refine w_get e23_82 hM.2.2.1 rfl ?_
              refine w_ldI e23_85 (fun _ => rfl) rfl ?_
              refine w_lld e23_87 (hM.2.2.2.2) (by omega) (by omega) (by decide) ?_
              have hg9 := hgl (x5).toNat (by omega)
              have hg8 := hg9.2
              refine w_ldL e23_88 (fun _ => rfl) rfl ?_
              refine w_x e23_89 (fun _ => rfl) ?_
              have hl723 := l_add (x := ((F (x5).toNat))) (y := l_2) (by omega) (by omega)
              refine w_x e23_90 (fun _ => rfl) ?_
              refine w_stL (j := 7) (A1 := [some (.ref a0), some (.long l_1), none, some (.long l_2), none, some (.int (vz x5)), some (.int (vz 0)), some (.long ((((F (x5).toNat)) + l_2))), none]) e23_94 (fun _ => rfl) (by decide) rfl ?_
              refine w_ldL e23_96 (fun _ => rfl) rfl ?_
              refine w_cs e23_98 (by decide) (Nat.le_of_ble_eq_true rfl) (Nat.le_of_ble_eq_true rfl) (Nat.le_of_ble_eq_true rfl) (by decide) (by decide) c74x (fun o724 v725 hq726 => ?_)
              obtain ⟨rfl, q727, h728, rfl⟩ := hq726
              refine w_if e23_101 (by omega) (fun (h729 : q727 = 0) => ?_) (fun (h729 : q727 ≠ 0) => ?_)
              ·
                refine w_kI e23_118 ?_
                exfalso; omega
              ·
                refine w_ldI e23_104 (fun _ => rfl) rfl ?_
                refine w_if e23_106 (by omega) (fun (h730 : 0 ≠ 0) => ?_) (fun (h730 : 0 = 0) => ?_)
                ·
                  refine w_ldI e23_120 (fun _ => rfl) rfl ?_
                  refine w_if e23_122 (by omega) (fun (h731 : 0 ≠ 0) => ?_) (fun (h731 : 0 = 0) => ?_)
                  ·
                    refine w_ldA e23_139 (fun _ => rfl) rfl ?_
                    refine w_get e23_140 hM.2.2.1 rfl ?_
                    refine w_ldI e23_143 (fun _ => rfl) rfl ?_
                    refine w_ldL e23_145 (fun _ => rfl) rfl ?_
                    refine w_lst e23_147 (hM.2.2.2.2) (by omega) (by omega) (by decide) (fun v734 b732 h733 => ?_)
                    obtain ⟨F735, hd736, hM737⟩ : ∃ z, z = vp_updL F (x5).toNat ((((F (x5).toNat)) + l_2)) ∧ pm a0 n K z v0 v734 := ⟨_, rfl, pm_F hM b732 h733⟩
                    refine w_ldL e23_148 (fun _ => rfl) rfl ?_
                    refine w_x e23_150 (fun _ => rfl) ?_
                    refine w_lcmp e23_151 (fun q738 (h739 : -1 ≤ q738 ∧ q738 ≤ 1) h740 h741 => ?_)
                    have hc742 : (q738 = 0 ↔ ((((F (x5).toNat)) + l_2)).toInt = ((Int64.ofNat 0)).toInt) ∧ (q738 < 0 ↔ ((((F (x5).toNat)) + l_2)).toInt < ((Int64.ofNat 0)).toInt) := lc_i h740 h741
                    have hc743 : (Int64.ofNat 0).toInt = 0 := rfl
                    refine w_if e23_152 (by omega) (fun (h744 : q738 ≠ 0) => ?_) (fun (h744 : q738 = 0) => ?_)
                    ·
                      refine w_kI e23_161 ?_
                      exfalso; omega
                    ·
                      refine w_ldA e23_155 (fun _ => rfl) rfl ?_
                      refine w_ldI e23_156 (fun _ => rfl) rfl ?_
                      refine w_cv e23_158 (by decide) rfl (hM737.2.2.1) rfl (Nat.le_of_ble_eq_true rfl) (Nat.le_of_ble_eq_true rfl) (Nat.le_of_ble_eq_true rfl) (by decide) (by decide) (c25x hM737 (by omega) (i1 := x5) (by omega) (by omega)) (fun o745 v746 hq747 => ?_)
                      obtain ⟨hM748, rfl⟩ := hq747
                      refine w_kI e23_161 ?_
                      exfalso; omega
                  ·
                    refine w_ldA e23_125 (fun _ => rfl) rfl ?_
                    refine w_ldI e23_126 (fun _ => rfl) rfl ?_
                    refine w_cv e23_128 (by decide) rfl (hM.2.2.1) rfl (Nat.le_of_ble_eq_true rfl) (Nat.le_of_ble_eq_true rfl) (Nat.le_of_ble_eq_true rfl) (by decide) (by decide) (c24x hM (by omega) (i1 := x5) (by omega) (by omega)) (fun o749 v750 hq751 => ?_)
                    obtain ⟨hM752, rfl⟩ := hq751
                    refine w_ldA e23_131 (fun _ => rfl) rfl ?_
                    refine w_get e23_132 hM752.2.2.1 rfl ?_
                    refine w_ldI e23_135 (fun _ => rfl) rfl ?_
                    refine w_ldL e23_137 (fun _ => rfl) rfl ?_
                    refine w_lst e23_138 (hM752.2.2.2.1) (by omega) (by omega) (by decide) (fun v755 b753 h754 => ?_)
                    obtain ⟨K756, hd757, hM758⟩ : ∃ z, z = vp_updL (va_cpy K K (x5 : Int).toNat (x5 + 1 : Int).toNat (n - x5 : Int).toNat) (x5).toNat l_1 ∧ pm a0 ((n + 1)) z ((va_cpy F F (x5 : Int).toNat (x5 + 1 : Int).toNat (n - x5 : Int).toNat)) v0 v755 := ⟨_, rfl, pm_K hM752 b753 h754⟩
                    refine w_ldA e23_139 (fun _ => rfl) rfl ?_
                    refine w_get e23_140 hM758.2.2.1 rfl ?_
                    refine w_ldI e23_143 (fun _ => rfl) rfl ?_
                    refine w_ldL e23_145 (fun _ => rfl) rfl ?_
                    refine w_lst e23_147 (hM758.2.2.2.2) (by omega) (by omega) (by decide) (fun v761 b759 h760 => ?_)
                    obtain ⟨F762, hd763, hM764⟩ : ∃ z, z = vp_updL (va_cpy F F (x5 : Int).toNat (x5 + 1 : Int).toNat (n - x5 : Int).toNat) (x5).toNat ((((F (x5).toNat)) + l_2)) ∧ pm a0 ((n + 1)) K756 z v0 v761 := ⟨_, rfl, pm_F hM758 b759 h760⟩
                    refine w_ldL e23_148 (fun _ => rfl) rfl ?_
                    refine w_x e23_150 (fun _ => rfl) ?_
                    refine w_lcmp e23_151 (fun q765 (h766 : -1 ≤ q765 ∧ q765 ≤ 1) h767 h768 => ?_)
                    have hc769 : (q765 = 0 ↔ ((((F (x5).toNat)) + l_2)).toInt = ((Int64.ofNat 0)).toInt) ∧ (q765 < 0 ↔ ((((F (x5).toNat)) + l_2)).toInt < ((Int64.ofNat 0)).toInt) := lc_i h767 h768
                    have hc770 : (Int64.ofNat 0).toInt = 0 := rfl
                    refine w_if e23_152 (by omega) (fun (h771 : q765 ≠ 0) => ?_) (fun (h771 : q765 = 0) => ?_)
                    ·
                      refine w_kI e23_161 ?_
                      exfalso; omega
                    ·
                      refine w_ldA e23_155 (fun _ => rfl) rfl ?_
                      refine w_ldI e23_156 (fun _ => rfl) rfl ?_
                      refine w_cv e23_158 (by decide) rfl (hM764.2.2.1) rfl (Nat.le_of_ble_eq_true rfl) (Nat.le_of_ble_eq_true rfl) (Nat.le_of_ble_eq_true rfl) (by decide) (by decide) (c25x hM764 (by omega) (i1 := x5) (by omega) (by omega)) (fun o772 v773 hq774 => ?_)
                      obtain ⟨hM775, rfl⟩ := hq774
                      refine w_kI e23_161 ?_
                      exfalso; omega
                ·
                  refine w_ldA e23_109 (fun _ => rfl) rfl ?_
                  refine w_get e23_110 hM.2.2.1 rfl ?_
                  refine w_kB e23_113 rfl ?_
                  refine w_ic e23_115 (by omega) (by omega) (fun (h776 : n < 60) => ?_) (fun (h776 : 60 ≤ n) => ?_)
                  ·
                    refine w_ldI e23_120 (fun _ => rfl) rfl ?_
                    refine w_if e23_122 (by omega) (fun (h777 : 0 ≠ 0) => ?_) (fun (h777 : 0 = 0) => ?_)
                    ·
                      refine w_ldA e23_139 (fun _ => rfl) rfl ?_
                      refine w_get e23_140 hM.2.2.1 rfl ?_
                      refine w_ldI e23_143 (fun _ => rfl) rfl ?_
                      refine w_ldL e23_145 (fun _ => rfl) rfl ?_
                      refine w_lst e23_147 (hM.2.2.2.2) (by omega) (by omega) (by decide) (fun v780 b778 h779 => ?_)
                      obtain ⟨F781, hd782, hM783⟩ : ∃ z, z = vp_updL F (x5).toNat ((((F (x5).toNat)) + l_2)) ∧ pm a0 n K z v0 v780 := ⟨_, rfl, pm_F hM b778 h779⟩
                      refine w_ldL e23_148 (fun _ => rfl) rfl ?_
                      refine w_x e23_150 (fun _ => rfl) ?_
                      refine w_lcmp e23_151 (fun q784 (h785 : -1 ≤ q784 ∧ q784 ≤ 1) h786 h787 => ?_)
                      have hc788 : (q784 = 0 ↔ ((((F (x5).toNat)) + l_2)).toInt = ((Int64.ofNat 0)).toInt) ∧ (q784 < 0 ↔ ((((F (x5).toNat)) + l_2)).toInt < ((Int64.ofNat 0)).toInt) := lc_i h786 h787
                      have hc789 : (Int64.ofNat 0).toInt = 0 := rfl
                      refine w_if e23_152 (by omega) (fun (h790 : q784 ≠ 0) => ?_) (fun (h790 : q784 = 0) => ?_)
                      ·
                        refine w_kI e23_161 ?_
                        exfalso; omega
                      ·
                        refine w_ldA e23_155 (fun _ => rfl) rfl ?_
                        refine w_ldI e23_156 (fun _ => rfl) rfl ?_
                        refine w_cv e23_158 (by decide) rfl (hM783.2.2.1) rfl (Nat.le_of_ble_eq_true rfl) (Nat.le_of_ble_eq_true rfl) (Nat.le_of_ble_eq_true rfl) (by decide) (by decide) (c25x hM783 (by omega) (i1 := x5) (by omega) (by omega)) (fun o791 v792 hq793 => ?_)
                        obtain ⟨hM794, rfl⟩ := hq793
                        refine w_kI e23_161 ?_
                        exfalso; omega
                    ·
                      refine w_ldA e23_125 (fun _ => rfl) rfl ?_
                      refine w_ldI e23_126 (fun _ => rfl) rfl ?_
                      refine w_cv e23_128 (by decide) rfl (hM.2.2.1) rfl (Nat.le_of_ble_eq_true rfl) (Nat.le_of_ble_eq_true rfl) (Nat.le_of_ble_eq_true rfl) (by decide) (by decide) (c24x hM (by omega) (i1 := x5) (by omega) (by omega)) (fun o795 v796 hq797 => ?_)
                      obtain ⟨hM798, rfl⟩ := hq797
                      refine w_ldA e23_131 (fun _ => rfl) rfl ?_
                      refine w_get e23_132 hM798.2.2.1 rfl ?_
                      refine w_ldI e23_135 (fun _ => rfl) rfl ?_
                      refine w_ldL e23_137 (fun _ => rfl) rfl ?_
                      refine w_lst e23_138 (hM798.2.2.2.1) (by omega) (by omega) (by decide) (fun v801 b799 h800 => ?_)
                      obtain ⟨K802, hd803, hM804⟩ : ∃ z, z = vp_updL (va_cpy K K (x5 : Int).toNat (x5 + 1 : Int).toNat (n - x5 : Int).toNat) (x5).toNat l_1 ∧ pm a0 ((n + 1)) z ((va_cpy F F (x5 : Int).toNat (x5 + 1 : Int).toNat (n - x5 : Int).toNat)) v0 v801 := ⟨_, rfl, pm_K hM798 b799 h800⟩
                      refine w_ldA e23_139 (fun _ => rfl) rfl ?_
                      refine w_get e23_140 hM804.2.2.1 rfl ?_
                      refine w_ldI e23_143 (fun _ => rfl) rfl ?_
                      refine w_ldL e23_145 (fun _ => rfl) rfl ?_
                      refine w_lst e23_147 (hM804.2.2.2.2) (by omega) (by omega) (by decide) (fun v807 b805 h806 => ?_)
                      obtain ⟨F808, hd809, hM810⟩ : ∃ z, z = vp_updL (va_cpy F F (x5 : Int).toNat (x5 + 1 : Int).toNat (n - x5 : Int).toNat) (x5).toNat ((((F (x5).toNat)) + l_2)) ∧ pm a0 ((n + 1)) K802 z v0 v807 := ⟨_, rfl, pm_F hM804 b805 h806⟩
                      refine w_ldL e23_148 (fun _ => rfl) rfl ?_
                      refine w_x e23_150 (fun _ => rfl) ?_
                      refine w_lcmp e23_151 (fun q811 (h812 : -1 ≤ q811 ∧ q811 ≤ 1) h813 h814 => ?_)
                      have hc815 : (q811 = 0 ↔ ((((F (x5).toNat)) + l_2)).toInt = ((Int64.ofNat 0)).toInt) ∧ (q811 < 0 ↔ ((((F (x5).toNat)) + l_2)).toInt < ((Int64.ofNat 0)).toInt) := lc_i h813 h814
                      have hc816 : (Int64.ofNat 0).toInt = 0 := rfl
                      refine w_if e23_152 (by omega) (fun (h817 : q811 ≠ 0) => ?_) (fun (h817 : q811 = 0) => ?_)
                      ·
                        refine w_kI e23_161 ?_
                        exfalso; omega
                      ·
                        refine w_ldA e23_155 (fun _ => rfl) rfl ?_
                        refine w_ldI e23_156 (fun _ => rfl) rfl ?_
                        refine w_cv e23_158 (by decide) rfl (hM810.2.2.1) rfl (Nat.le_of_ble_eq_true rfl) (Nat.le_of_ble_eq_true rfl) (Nat.le_of_ble_eq_true rfl) (by decide) (by decide) (c25x hM810 (by omega) (i1 := x5) (by omega) (by omega)) (fun o818 v819 hq820 => ?_)
                        obtain ⟨hM821, rfl⟩ := hq820
                        refine w_kI e23_161 ?_
                        exfalso; omega
                  ·
                    refine w_kI e23_118 ?_
                    exfalso; omega
          ·
            refine w_ldA e23_57 (fun _ => rfl) rfl ?_
            refine w_get e23_58 hM.2.2.1 rfl ?_
            refine w_ldI e23_61 (fun _ => rfl) rfl ?_
            refine w_lld e23_63 (hM.2.2.2.1) (by omega) (by omega) (by decide) ?_
            refine w_ldL e23_64 (fun _ => rfl) rfl ?_
            refine w_lcmp e23_65 (fun q822 (h823 : -1 ≤ q822 ∧ q822 ≤ 1) h824 h825 => ?_)
            have hc826 : (q822 = 0 ↔ ((K (x5).toNat)).toInt = l_1.toInt) ∧ (q822 < 0 ↔ ((K (x5).toNat)).toInt < l_1.toInt) := lc_i h824 h825
            refine w_if e23_66 (by omega) (fun (h827 : q822 ≠ 0) => ?_) (fun (h827 : q822 = 0) => ?_)
            ·
              have hkn : ¬ K (x5).toNat = l_1 := fun e9 => h827 (h824.mpr e9)
              refine w_kI e23_73 ?_
              refine w_stI (j := 6) (A1 := [some (.ref a0), some (.long l_1), none, some (.long l_2), none, some (.int (vz x5)), some (.int (vz 0)), none, none]) e23_74 (fun _ => rfl) (by decide) rfl ?_
              refine w_ldI e23_76 (fun _ => rfl) rfl ?_
              refine w_if e23_78 (by omega) (fun (h828 : 0 = 0) => ?_) (fun (h828 : 0 ≠ 0) => ?_)
              ·
                refine w_ldL e23_93 (fun _ => rfl) rfl ?_
                refine w_stL (j := 7) (A1 := [some (.ref a0), some (.long l_1), none, some (.long l_2), none, some (.int (vz x5)), some (.int (vz 0)), some (.long l_2), none]) e23_94 (fun _ => rfl) (by decide) rfl ?_
                refine w_ldL e23_96 (fun _ => rfl) rfl ?_
                refine w_cs e23_98 (by decide) (Nat.le_of_ble_eq_true rfl) (Nat.le_of_ble_eq_true rfl) (Nat.le_of_ble_eq_true rfl) (by decide) (by decide) c74x (fun o829 v830 hq831 => ?_)
                obtain ⟨rfl, q832, h833, rfl⟩ := hq831
                refine w_if e23_101 (by omega) (fun (h834 : q832 = 0) => ?_) (fun (h834 : q832 ≠ 0) => ?_)
                ·
                  refine w_kI e23_118 ?_
                  exact w_rz e23_119 rfl (by omega) ⟨0, n, K, F, x5, hM, Or.inr ⟨hvr, ⟨by omega, hi0, fun h9 => by omega⟩, Or.inl ⟨rfl, rfl, rfl, rfl, Or.inr ⟨fun h9 => hkn h9.2, by unfold sr; omega⟩⟩⟩, rfl⟩
                ·
                  refine w_ldI e23_104 (fun _ => rfl) rfl ?_
                  refine w_if e23_106 (by omega) (fun (h835 : 0 ≠ 0) => ?_) (fun (h835 : 0 = 0) => ?_)
                  ·
                    refine w_ldI e23_120 (fun _ => rfl) rfl ?_
                    refine w_if e23_122 (by omega) (fun (h836 : 0 ≠ 0) => ?_) (fun (h836 : 0 = 0) => ?_)
                    ·
                      refine w_ldA e23_139 (fun _ => rfl) rfl ?_
                      refine w_get e23_140 hM.2.2.1 rfl ?_
                      refine w_ldI e23_143 (fun _ => rfl) rfl ?_
                      refine w_ldL e23_145 (fun _ => rfl) rfl ?_
                      refine w_lst e23_147 (hM.2.2.2.2) (by omega) (by omega) (by decide) (fun v839 b837 h838 => ?_)
                      obtain ⟨F840, hd841, hM842⟩ : ∃ z, z = vp_updL F (x5).toNat l_2 ∧ pm a0 n K z v0 v839 := ⟨_, rfl, pm_F hM b837 h838⟩
                      refine w_ldL e23_148 (fun _ => rfl) rfl ?_
                      refine w_x e23_150 (fun _ => rfl) ?_
                      refine w_lcmp e23_151 (fun q843 (h844 : -1 ≤ q843 ∧ q843 ≤ 1) h845 h846 => ?_)
                      have hc847 : (q843 = 0 ↔ l_2.toInt = ((Int64.ofNat 0)).toInt) ∧ (q843 < 0 ↔ l_2.toInt < ((Int64.ofNat 0)).toInt) := lc_i h845 h846
                      have hc848 : (Int64.ofNat 0).toInt = 0 := rfl
                      refine w_if e23_152 (by omega) (fun (h849 : q843 ≠ 0) => ?_) (fun (h849 : q843 = 0) => ?_)
                      ·
                        refine w_kI e23_161 ?_
                        exfalso; omega
                      ·
                        refine w_ldA e23_155 (fun _ => rfl) rfl ?_
                        refine w_ldI e23_156 (fun _ => rfl) rfl ?_
                        refine w_cv e23_158 (by decide) rfl (hM842.2.2.1) rfl (Nat.le_of_ble_eq_true rfl) (Nat.le_of_ble_eq_true rfl) (Nat.le_of_ble_eq_true rfl) (by decide) (by decide) (c25x hM842 (by omega) (i1 := x5) (by omega) (by omega)) (fun o850 v851 hq852 => ?_)
                        obtain ⟨hM853, rfl⟩ := hq852
                        refine w_kI e23_161 ?_
                        exfalso; omega
                    ·
                      refine w_ldA e23_125 (fun _ => rfl) rfl ?_
                      refine w_ldI e23_126 (fun _ => rfl) rfl ?_
                      refine w_cv e23_128 (by decide) rfl (hM.2.2.1) rfl (Nat.le_of_ble_eq_true rfl) (Nat.le_of_ble_eq_true rfl) (Nat.le_of_ble_eq_true rfl) (by decide) (by decide) (c24x hM (by omega) (i1 := x5) (by omega) (by omega)) (fun o854 v855 hq856 => ?_)
                      obtain ⟨hM857, rfl⟩ := hq856
                      refine w_ldA e23_131 (fun _ => rfl) rfl ?_
                      refine w_get e23_132 hM857.2.2.1 rfl ?_
                      refine w_ldI e23_135 (fun _ => rfl) rfl ?_
                      refine w_ldL e23_137 (fun _ => rfl) rfl ?_
                      refine w_lst e23_138 (hM857.2.2.2.1) (by omega) (by omega) (by decide) (fun v860 b858 h859 => ?_)
                      obtain ⟨K861, hd862, hM863⟩ : ∃ z, z = vp_updL (va_cpy K K (x5 : Int).toNat (x5 + 1 : Int).toNat (n - x5 : Int).toNat) (x5).toNat l_1 ∧ pm a0 ((n + 1)) z ((va_cpy F F (x5 : Int).toNat (x5 + 1 : Int).toNat (n - x5 : Int).toNat)) v0 v860 := ⟨_, rfl, pm_K hM857 b858 h859⟩
                      refine w_ldA e23_139 (fun _ => rfl) rfl ?_
                      refine w_get e23_140 hM863.2.2.1 rfl ?_
                      refine w_ldI e23_143 (fun _ => rfl) rfl ?_
                      refine w_ldL e23_145 (fun _ => rfl) rfl ?_
                      refine w_lst e23_147 (hM863.2.2.2.2) (by omega) (by omega) (by decide) (fun v866 b864 h865 => ?_)
                      obtain ⟨F867, hd868, hM869⟩ : ∃ z, z = vp_updL (va_cpy F F (x5 : Int).toNat (x5 + 1 : Int).toNat (n - x5 : Int).toNat) (x5).toNat l_2 ∧ pm a0 ((n + 1)) K861 z v0 v866 := ⟨_, rfl, pm_F hM863 b864 h865⟩
                      refine w_ldL e23_148 (fun _ => rfl) rfl ?_
                      refine w_x e23_150 (fun _ => rfl) ?_
                      refine w_lcmp e23_151 (fun q870 (h871 : -1 ≤ q870 ∧ q870 ≤ 1) h872 h873 => ?_)
                      have hc874 : (q870 = 0 ↔ l_2.toInt = ((Int64.ofNat 0)).toInt) ∧ (q870 < 0 ↔ l_2.toInt < ((Int64.ofNat 0)).toInt) := lc_i h872 h873
                      have hc875 : (Int64.ofNat 0).toInt = 0 := rfl
                      refine w_if e23_152 (by omega) (fun (h876 : q870 ≠ 0) => ?_) (fun (h876 : q870 = 0) => ?_)
                      ·
                        refine w_kI e23_161 ?_
                        exact w_rz e23_162 rfl (by omega) ⟨1, (n + 1), K861, F867, x5, hM869, Or.inr ⟨hvr, ⟨by omega, hi0, fun h9 => by omega⟩, Or.inr (Or.inl ⟨rfl, fun h9 => hkn h9.2, by unfold sr; omega, by omega, rfl, hd862, hd868⟩)⟩, rfl⟩
                      ·
                        refine w_ldA e23_155 (fun _ => rfl) rfl ?_
                        refine w_ldI e23_156 (fun _ => rfl) rfl ?_
                        refine w_cv e23_158 (by decide) rfl (hM869.2.2.1) rfl (Nat.le_of_ble_eq_true rfl) (Nat.le_of_ble_eq_true rfl) (Nat.le_of_ble_eq_true rfl) (by decide) (by decide) (c25x hM869 (by omega) (i1 := x5) (by omega) (by omega)) (fun o877 v878 hq879 => ?_)
                        obtain ⟨hM880, rfl⟩ := hq879
                        refine w_kI e23_161 ?_
                        exfalso; omega
                  ·
                    refine w_ldA e23_109 (fun _ => rfl) rfl ?_
                    refine w_get e23_110 hM.2.2.1 rfl ?_
                    refine w_kB e23_113 rfl ?_
                    refine w_ic e23_115 (by omega) (by omega) (fun (h881 : n < 60) => ?_) (fun (h881 : 60 ≤ n) => ?_)
                    ·
                      refine w_ldI e23_120 (fun _ => rfl) rfl ?_
                      refine w_if e23_122 (by omega) (fun (h882 : 0 ≠ 0) => ?_) (fun (h882 : 0 = 0) => ?_)
                      ·
                        refine w_ldA e23_139 (fun _ => rfl) rfl ?_
                        refine w_get e23_140 hM.2.2.1 rfl ?_
                        refine w_ldI e23_143 (fun _ => rfl) rfl ?_
                        refine w_ldL e23_145 (fun _ => rfl) rfl ?_
                        refine w_lst e23_147 (hM.2.2.2.2) (by omega) (by omega) (by decide) (fun v885 b883 h884 => ?_)
                        obtain ⟨F886, hd887, hM888⟩ : ∃ z, z = vp_updL F (x5).toNat l_2 ∧ pm a0 n K z v0 v885 := ⟨_, rfl, pm_F hM b883 h884⟩
                        refine w_ldL e23_148 (fun _ => rfl) rfl ?_
                        refine w_x e23_150 (fun _ => rfl) ?_
                        refine w_lcmp e23_151 (fun q889 (h890 : -1 ≤ q889 ∧ q889 ≤ 1) h891 h892 => ?_)
                        have hc893 : (q889 = 0 ↔ l_2.toInt = ((Int64.ofNat 0)).toInt) ∧ (q889 < 0 ↔ l_2.toInt < ((Int64.ofNat 0)).toInt) := lc_i h891 h892
                        have hc894 : (Int64.ofNat 0).toInt = 0 := rfl
                        refine w_if e23_152 (by omega) (fun (h895 : q889 ≠ 0) => ?_) (fun (h895 : q889 = 0) => ?_)
                        ·
                          refine w_kI e23_161 ?_
                          exfalso; omega
                        ·
                          refine w_ldA e23_155 (fun _ => rfl) rfl ?_
                          refine w_ldI e23_156 (fun _ => rfl) rfl ?_
                          refine w_cv e23_158 (by decide) rfl (hM888.2.2.1) rfl (Nat.le_of_ble_eq_true rfl) (Nat.le_of_ble_eq_true rfl) (Nat.le_of_ble_eq_true rfl) (by decide) (by decide) (c25x hM888 (by omega) (i1 := x5) (by omega) (by omega)) (fun o896 v897 hq898 => ?_)
                          obtain ⟨hM899, rfl⟩ := hq898
                          refine w_kI e23_161 ?_
                          exfalso; omega
                      ·
                        refine w_ldA e23_125 (fun _ => rfl) rfl ?_
                        refine w_ldI e23_126 (fun _ => rfl) rfl ?_
                        refine w_cv e23_128 (by decide) rfl (hM.2.2.1) rfl (Nat.le_of_ble_eq_true rfl) (Nat.le_of_ble_eq_true rfl) (Nat.le_of_ble_eq_true rfl) (by decide) (by decide) (c24x hM (by omega) (i1 := x5) (by omega) (by omega)) (fun o900 v901 hq902 => ?_)
                        obtain ⟨hM903, rfl⟩ := hq902
                        refine w_ldA e23_131 (fun _ => rfl) rfl ?_
                        refine w_get e23_132 hM903.2.2.1 rfl ?_
                        refine w_ldI e23_135 (fun _ => rfl) rfl ?_
                        refine w_ldL e23_137 (fun _ => rfl) rfl ?_
                        refine w_lst e23_138 (hM903.2.2.2.1) (by omega) (by omega) (by decide) (fun v906 b904 h905 => ?_)
                        obtain ⟨K907, hd908, hM909⟩ : ∃ z, z = vp_updL (va_cpy K K (x5 : Int).toNat (x5 + 1 : Int).toNat (n - x5 : Int).toNat) (x5).toNat l_1 ∧ pm a0 ((n + 1)) z ((va_cpy F F (x5 : Int).toNat (x5 + 1 : Int).toNat (n - x5 : Int).toNat)) v0 v906 := ⟨_, rfl, pm_K hM903 b904 h905⟩
                        refine w_ldA e23_139 (fun _ => rfl) rfl ?_
                        refine w_get e23_140 hM909.2.2.1 rfl ?_
                        refine w_ldI e23_143 (fun _ => rfl) rfl ?_
                        refine w_ldL e23_145 (fun _ => rfl) rfl ?_
                        refine w_lst e23_147 (hM909.2.2.2.2) (by omega) (by omega) (by decide) (fun v912 b910 h911 => ?_)
                        obtain ⟨F913, hd914, hM915⟩ : ∃ z, z = vp_updL (va_cpy F F (x5 : Int).toNat (x5 + 1 : Int).toNat (n - x5 : Int).toNat) (x5).toNat l_2 ∧ pm a0 ((n + 1)) K907 z v0 v912 := ⟨_, rfl, pm_F hM909 b910 h911⟩
                        refine w_ldL e23_148 (fun _ => rfl) rfl ?_
                        refine w_x e23_150 (fun _ => rfl) ?_
                        refine w_lcmp e23_151 (fun q916 (h917 : -1 ≤ q916 ∧ q916 ≤ 1) h918 h919 => ?_)
                        have hc920 : (q916 = 0 ↔ l_2.toInt = ((Int64.ofNat 0)).toInt) ∧ (q916 < 0 ↔ l_2.toInt < ((Int64.ofNat 0)).toInt) := lc_i h918 h919
                        have hc921 : (Int64.ofNat 0).toInt = 0 := rfl
                        refine w_if e23_152 (by omega) (fun (h922 : q916 ≠ 0) => ?_) (fun (h922 : q916 = 0) => ?_)
                        ·
                          refine w_kI e23_161 ?_
                          exact w_rz e23_162 rfl (by omega) ⟨1, (n + 1), K907, F913, x5, hM915, Or.inr ⟨hvr, ⟨by omega, hi0, fun h9 => by omega⟩, Or.inr (Or.inl ⟨rfl, fun h9 => hkn h9.2, by unfold sr; omega, by omega, rfl, hd908, hd914⟩)⟩, rfl⟩
                        ·
                          refine w_ldA e23_155 (fun _ => rfl) rfl ?_
                          refine w_ldI e23_156 (fun _ => rfl) rfl ?_
                          refine w_cv e23_158 (by decide) rfl (hM915.2.2.1) rfl (Nat.le_of_ble_eq_true rfl) (Nat.le_of_ble_eq_true rfl) (Nat.le_of_ble_eq_true rfl) (by decide) (by decide) (c25x hM915 (by omega) (i1 := x5) (by omega) (by omega)) (fun o923 v924 hq925 => ?_)
                          obtain ⟨hM926, rfl⟩ := hq925
                          refine w_kI e23_161 ?_
                          exfalso; omega
                    ·
                      refine w_kI e23_118 ?_
                      exact w_rz e23_119 rfl (by omega) ⟨0, n, K, F, x5, hM, Or.inr ⟨hvr, ⟨by omega, hi0, fun h9 => by omega⟩, Or.inl ⟨rfl, rfl, rfl, rfl, Or.inr ⟨fun h9 => hkn h9.2, by unfold sr; omega⟩⟩⟩, rfl⟩
              ·
                refine w_ldA e23_81 (fun _ => rfl) rfl ?_
                refine w_get e23_82 hM.2.2.1 rfl ?_
                refine w_ldI e23_85 (fun _ => rfl) rfl ?_
                refine w_lld e23_87 (hM.2.2.2.2) (by omega) (by omega) (by decide) ?_
                have hg9 := hgl (x5).toNat (by omega)
                have hg8 := hg9.2
                refine w_ldL e23_88 (fun _ => rfl) rfl ?_
                refine w_x e23_89 (fun _ => rfl) ?_
                have hl927 := l_add (x := ((F (x5).toNat))) (y := l_2) (by omega) (by omega)
                refine w_x e23_90 (fun _ => rfl) ?_
                refine w_stL (j := 7) (A1 := [some (.ref a0), some (.long l_1), none, some (.long l_2), none, some (.int (vz x5)), some (.int (vz 0)), some (.long ((((F (x5).toNat)) + l_2))), none]) e23_94 (fun _ => rfl) (by decide) rfl ?_
                refine w_ldL e23_96 (fun _ => rfl) rfl ?_
                refine w_cs e23_98 (by decide) (Nat.le_of_ble_eq_true rfl) (Nat.le_of_ble_eq_true rfl) (Nat.le_of_ble_eq_true rfl) (by decide) (by decide) c74x (fun o928 v929 hq930 => ?_)
                obtain ⟨rfl, q931, h932, rfl⟩ := hq930
                refine w_if e23_101 (by omega) (fun (h933 : q931 = 0) => ?_) (fun (h933 : q931 ≠ 0) => ?_)
                ·
                  refine w_kI e23_118 ?_
                  exfalso; omega
                ·
                  refine w_ldI e23_104 (fun _ => rfl) rfl ?_
                  refine w_if e23_106 (by omega) (fun (h934 : 0 ≠ 0) => ?_) (fun (h934 : 0 = 0) => ?_)
                  ·
                    refine w_ldI e23_120 (fun _ => rfl) rfl ?_
                    refine w_if e23_122 (by omega) (fun (h935 : 0 ≠ 0) => ?_) (fun (h935 : 0 = 0) => ?_)
                    ·
                      refine w_ldA e23_139 (fun _ => rfl) rfl ?_
                      refine w_get e23_140 hM.2.2.1 rfl ?_
                      refine w_ldI e23_143 (fun _ => rfl) rfl ?_
                      refine w_ldL e23_145 (fun _ => rfl) rfl ?_
                      refine w_lst e23_147 (hM.2.2.2.2) (by omega) (by omega) (by decide) (fun v938 b936 h937 => ?_)
                      obtain ⟨F939, hd940, hM941⟩ : ∃ z, z = vp_updL F (x5).toNat ((((F (x5).toNat)) + l_2)) ∧ pm a0 n K z v0 v938 := ⟨_, rfl, pm_F hM b936 h937⟩
                      refine w_ldL e23_148 (fun _ => rfl) rfl ?_
                      refine w_x e23_150 (fun _ => rfl) ?_
                      refine w_lcmp e23_151 (fun q942 (h943 : -1 ≤ q942 ∧ q942 ≤ 1) h944 h945 => ?_)
                      have hc946 : (q942 = 0 ↔ ((((F (x5).toNat)) + l_2)).toInt = ((Int64.ofNat 0)).toInt) ∧ (q942 < 0 ↔ ((((F (x5).toNat)) + l_2)).toInt < ((Int64.ofNat 0)).toInt) := lc_i h944 h945
                      have hc947 : (Int64.ofNat 0).toInt = 0 := rfl
                      refine w_if e23_152 (by omega) (fun (h948 : q942 ≠ 0) => ?_) (fun (h948 : q942 = 0) => ?_)
                      ·
                        refine w_kI e23_161 ?_
                        exfalso; omega
                      ·
                        refine w_ldA e23_155 (fun _ => rfl) rfl ?_
                        refine w_ldI e23_156 (fun _ => rfl) rfl ?_
                        refine w_cv e23_158 (by decide) rfl (hM941.2.2.1) rfl (Nat.le_of_ble_eq_true rfl) (Nat.le_of_ble_eq_true rfl) (Nat.le_of_ble_eq_true rfl) (by decide) (by decide) (c25x hM941 (by omega) (i1 := x5) (by omega) (by omega)) (fun o949 v950 hq951 => ?_)
                        obtain ⟨hM952, rfl⟩ := hq951
                        refine w_kI e23_161 ?_
                        exfalso; omega
                    ·
                      refine w_ldA e23_125 (fun _ => rfl) rfl ?_
                      refine w_ldI e23_126 (fun _ => rfl) rfl ?_
                      refine w_cv e23_128 (by decide) rfl (hM.2.2.1) rfl (Nat.le_of_ble_eq_true rfl) (Nat.le_of_ble_eq_true rfl) (Nat.le_of_ble_eq_true rfl) (by decide) (by decide) (c24x hM (by omega) (i1 := x5) (by omega) (by omega)) (fun o953 v954 hq955 => ?_)
                      obtain ⟨hM956, rfl⟩ := hq955
                      refine w_ldA e23_131 (fun _ => rfl) rfl ?_
                      refine w_get e23_132 hM956.2.2.1 rfl ?_
                      refine w_ldI e23_135 (fun _ => rfl) rfl ?_
                      refine w_ldL e23_137 (fun _ => rfl) rfl ?_
                      refine w_lst e23_138 (hM956.2.2.2.1) (by omega) (by omega) (by decide) (fun v959 b957 h958 => ?_)
                      obtain ⟨K960, hd961, hM962⟩ : ∃ z, z = vp_updL (va_cpy K K (x5 : Int).toNat (x5 + 1 : Int).toNat (n - x5 : Int).toNat) (x5).toNat l_1 ∧ pm a0 ((n + 1)) z ((va_cpy F F (x5 : Int).toNat (x5 + 1 : Int).toNat (n - x5 : Int).toNat)) v0 v959 := ⟨_, rfl, pm_K hM956 b957 h958⟩
                      refine w_ldA e23_139 (fun _ => rfl) rfl ?_
                      refine w_get e23_140 hM962.2.2.1 rfl ?_
                      refine w_ldI e23_143 (fun _ => rfl) rfl ?_
                      refine w_ldL e23_145 (fun _ => rfl) rfl ?_
                      refine w_lst e23_147 (hM962.2.2.2.2) (by omega) (by omega) (by decide) (fun v965 b963 h964 => ?_)
                      obtain ⟨F966, hd967, hM968⟩ : ∃ z, z = vp_updL (va_cpy F F (x5 : Int).toNat (x5 + 1 : Int).toNat (n - x5 : Int).toNat) (x5).toNat ((((F (x5).toNat)) + l_2)) ∧ pm a0 ((n + 1)) K960 z v0 v965 := ⟨_, rfl, pm_F hM962 b963 h964⟩
                      refine w_ldL e23_148 (fun _ => rfl) rfl ?_
                      refine w_x e23_150 (fun _ => rfl) ?_
                      refine w_lcmp e23_151 (fun q969 (h970 : -1 ≤ q969 ∧ q969 ≤ 1) h971 h972 => ?_)
                      have hc973 : (q969 = 0 ↔ ((((F (x5).toNat)) + l_2)).toInt = ((Int64.ofNat 0)).toInt) ∧ (q969 < 0 ↔ ((((F (x5).toNat)) + l_2)).toInt < ((Int64.ofNat 0)).toInt) := lc_i h971 h972
                      have hc974 : (Int64.ofNat 0).toInt = 0 := rfl
                      refine w_if e23_152 (by omega) (fun (h975 : q969 ≠ 0) => ?_) (fun (h975 : q969 = 0) => ?_)
                      ·
                        refine w_kI e23_161 ?_
                        exfalso; omega
                      ·
                        refine w_ldA e23_155 (fun _ => rfl) rfl ?_
                        refine w_ldI e23_156 (fun _ => rfl) rfl ?_
                        refine w_cv e23_158 (by decide) rfl (hM968.2.2.1) rfl (Nat.le_of_ble_eq_true rfl) (Nat.le_of_ble_eq_true rfl) (Nat.le_of_ble_eq_true rfl) (by decide) (by decide) (c25x hM968 (by omega) (i1 := x5) (by omega) (by omega)) (fun o976 v977 hq978 => ?_)
                        obtain ⟨hM979, rfl⟩ := hq978
                        refine w_kI e23_161 ?_
                        exfalso; omega
                  ·
                    refine w_ldA e23_109 (fun _ => rfl) rfl ?_
                    refine w_get e23_110 hM.2.2.1 rfl ?_
                    refine w_kB e23_113 rfl ?_
                    refine w_ic e23_115 (by omega) (by omega) (fun (h980 : n < 60) => ?_) (fun (h980 : 60 ≤ n) => ?_)
                    ·
                      refine w_ldI e23_120 (fun _ => rfl) rfl ?_
                      refine w_if e23_122 (by omega) (fun (h981 : 0 ≠ 0) => ?_) (fun (h981 : 0 = 0) => ?_)
                      ·
                        refine w_ldA e23_139 (fun _ => rfl) rfl ?_
                        refine w_get e23_140 hM.2.2.1 rfl ?_
                        refine w_ldI e23_143 (fun _ => rfl) rfl ?_
                        refine w_ldL e23_145 (fun _ => rfl) rfl ?_
                        refine w_lst e23_147 (hM.2.2.2.2) (by omega) (by omega) (by decide) (fun v984 b982 h983 => ?_)
                        obtain ⟨F985, hd986, hM987⟩ : ∃ z, z = vp_updL F (x5).toNat ((((F (x5).toNat)) + l_2)) ∧ pm a0 n K z v0 v984 := ⟨_, rfl, pm_F hM b982 h983⟩
                        refine w_ldL e23_148 (fun _ => rfl) rfl ?_
                        refine w_x e23_150 (fun _ => rfl) ?_
                        refine w_lcmp e23_151 (fun q988 (h989 : -1 ≤ q988 ∧ q988 ≤ 1) h990 h991 => ?_)
                        have hc992 : (q988 = 0 ↔ ((((F (x5).toNat)) + l_2)).toInt = ((Int64.ofNat 0)).toInt) ∧ (q988 < 0 ↔ ((((F (x5).toNat)) + l_2)).toInt < ((Int64.ofNat 0)).toInt) := lc_i h990 h991
                        have hc993 : (Int64.ofNat 0).toInt = 0 := rfl
                        refine w_if e23_152 (by omega) (fun (h994 : q988 ≠ 0) => ?_) (fun (h994 : q988 = 0) => ?_)
                        ·
                          refine w_kI e23_161 ?_
                          exfalso; omega
                        ·
                          refine w_ldA e23_155 (fun _ => rfl) rfl ?_
                          refine w_ldI e23_156 (fun _ => rfl) rfl ?_
                          refine w_cv e23_158 (by decide) rfl (hM987.2.2.1) rfl (Nat.le_of_ble_eq_true rfl) (Nat.le_of_ble_eq_true rfl) (Nat.le_of_ble_eq_true rfl) (by decide) (by decide) (c25x hM987 (by omega) (i1 := x5) (by omega) (by omega)) (fun o995 v996 hq997 => ?_)
                          obtain ⟨hM998, rfl⟩ := hq997
                          refine w_kI e23_161 ?_
                          exfalso; omega
                      ·
                        refine w_ldA e23_125 (fun _ => rfl) rfl ?_
                        refine w_ldI e23_126 (fun _ => rfl) rfl ?_
                        refine w_cv e23_128 (by decide) rfl (hM.2.2.1) rfl (Nat.le_of_ble_eq_true rfl) (Nat.le_of_ble_eq_true rfl) (Nat.le_of_ble_eq_true rfl) (by decide) (by decide) (c24x hM (by omega) (i1 := x5) (by omega) (by omega)) (fun o999 v1000 hq1001 => ?_)
                        obtain ⟨hM1002, rfl⟩ := hq1001
                        refine w_ldA e23_131 (fun _ => rfl) rfl ?_
                        refine w_get e23_132 hM1002.2.2.1 rfl ?_
                        refine w_ldI e23_135 (fun _ => rfl) rfl ?_
                        refine w_ldL e23_137 (fun _ => rfl) rfl ?_
                        refine w_lst e23_138 (hM1002.2.2.2.1) (by omega) (by omega) (by decide) (fun v1005 b1003 h1004 => ?_)
                        obtain ⟨K1006, hd1007, hM1008⟩ : ∃ z, z = vp_updL (va_cpy K K (x5 : Int).toNat (x5 + 1 : Int).toNat (n - x5 : Int).toNat) (x5).toNat l_1 ∧ pm a0 ((n + 1)) z ((va_cpy F F (x5 : Int).toNat (x5 + 1 : Int).toNat (n - x5 : Int).toNat)) v0 v1005 := ⟨_, rfl, pm_K hM1002 b1003 h1004⟩
                        refine w_ldA e23_139 (fun _ => rfl) rfl ?_
                        refine w_get e23_140 hM1008.2.2.1 rfl ?_
                        refine w_ldI e23_143 (fun _ => rfl) rfl ?_
                        refine w_ldL e23_145 (fun _ => rfl) rfl ?_
                        refine w_lst e23_147 (hM1008.2.2.2.2) (by omega) (by omega) (by decide) (fun v1011 b1009 h1010 => ?_)
                        obtain ⟨F1012, hd1013, hM1014⟩ : ∃ z, z = vp_updL (va_cpy F F (x5 : Int).toNat (x5 + 1 : Int).toNat (n - x5 : Int).toNat) (x5).toNat ((((F (x5).toNat)) + l_2)) ∧ pm a0 ((n + 1)) K1006 z v0 v1011 := ⟨_, rfl, pm_F hM1008 b1009 h1010⟩
                        refine w_ldL e23_148 (fun _ => rfl) rfl ?_
                        refine w_x e23_150 (fun _ => rfl) ?_
                        refine w_lcmp e23_151 (fun q1015 (h1016 : -1 ≤ q1015 ∧ q1015 ≤ 1) h1017 h1018 => ?_)
                        have hc1019 : (q1015 = 0 ↔ ((((F (x5).toNat)) + l_2)).toInt = ((Int64.ofNat 0)).toInt) ∧ (q1015 < 0 ↔ ((((F (x5).toNat)) + l_2)).toInt < ((Int64.ofNat 0)).toInt) := lc_i h1017 h1018
                        have hc1020 : (Int64.ofNat 0).toInt = 0 := rfl
                        refine w_if e23_152 (by omega) (fun (h1021 : q1015 ≠ 0) => ?_) (fun (h1021 : q1015 = 0) => ?_)
                        ·
                          refine w_kI e23_161 ?_
                          exfalso; omega
                        ·
                          refine w_ldA e23_155 (fun _ => rfl) rfl ?_
                          refine w_ldI e23_156 (fun _ => rfl) rfl ?_
                          refine w_cv e23_158 (by decide) rfl (hM1014.2.2.1) rfl (Nat.le_of_ble_eq_true rfl) (Nat.le_of_ble_eq_true rfl) (Nat.le_of_ble_eq_true rfl) (by decide) (by decide) (c25x hM1014 (by omega) (i1 := x5) (by omega) (by omega)) (fun o1022 v1023 hq1024 => ?_)
                          obtain ⟨hM1025, rfl⟩ := hq1024
                          refine w_kI e23_161 ?_
                          exfalso; omega
                    ·
                      refine w_kI e23_118 ?_
                      exfalso; omega
            ·
              have hkn : K (x5).toNat = l_1 := h824.mp h827
              refine w_kI e23_69 ?_
              refine w_x e23_70 (fun _ => rfl) ?_
              refine w_stI (j := 6) (A1 := [some (.ref a0), some (.long l_1), none, some (.long l_2), none, some (.int (vz x5)), some (.int (vz 1)), none, none]) e23_74 (fun _ => rfl) (by decide) rfl ?_
              refine w_ldI e23_76 (fun _ => rfl) rfl ?_
              refine w_if e23_78 (by omega) (fun (h1026 : 1 = 0) => ?_) (fun (h1026 : 1 ≠ 0) => ?_)
              ·
                refine w_ldL e23_93 (fun _ => rfl) rfl ?_
                refine w_stL (j := 7) (A1 := [some (.ref a0), some (.long l_1), none, some (.long l_2), none, some (.int (vz x5)), some (.int (vz 1)), some (.long l_2), none]) e23_94 (fun _ => rfl) (by decide) rfl ?_
                refine w_ldL e23_96 (fun _ => rfl) rfl ?_
                refine w_cs e23_98 (by decide) (Nat.le_of_ble_eq_true rfl) (Nat.le_of_ble_eq_true rfl) (Nat.le_of_ble_eq_true rfl) (by decide) (by decide) c74x (fun o1027 v1028 hq1029 => ?_)
                obtain ⟨rfl, q1030, h1031, rfl⟩ := hq1029
                refine w_if e23_101 (by omega) (fun (h1032 : q1030 = 0) => ?_) (fun (h1032 : q1030 ≠ 0) => ?_)
                ·
                  refine w_kI e23_118 ?_
                  exfalso; omega
                ·
                  refine w_ldI e23_104 (fun _ => rfl) rfl ?_
                  refine w_if e23_106 (by omega) (fun (h1033 : 1 ≠ 0) => ?_) (fun (h1033 : 1 = 0) => ?_)
                  ·
                    refine w_ldI e23_120 (fun _ => rfl) rfl ?_
                    refine w_if e23_122 (by omega) (fun (h1034 : 1 ≠ 0) => ?_) (fun (h1034 : 1 = 0) => ?_)
                    ·
                      refine w_ldA e23_139 (fun _ => rfl) rfl ?_
                      refine w_get e23_140 hM.2.2.1 rfl ?_
                      refine w_ldI e23_143 (fun _ => rfl) rfl ?_
                      refine w_ldL e23_145 (fun _ => rfl) rfl ?_
                      refine w_lst e23_147 (hM.2.2.2.2) (by omega) (by omega) (by decide) (fun v1037 b1035 h1036 => ?_)
                      obtain ⟨F1038, hd1039, hM1040⟩ : ∃ z, z = vp_updL F (x5).toNat l_2 ∧ pm a0 n K z v0 v1037 := ⟨_, rfl, pm_F hM b1035 h1036⟩
                      refine w_ldL e23_148 (fun _ => rfl) rfl ?_
                      refine w_x e23_150 (fun _ => rfl) ?_
                      refine w_lcmp e23_151 (fun q1041 (h1042 : -1 ≤ q1041 ∧ q1041 ≤ 1) h1043 h1044 => ?_)
                      have hc1045 : (q1041 = 0 ↔ l_2.toInt = ((Int64.ofNat 0)).toInt) ∧ (q1041 < 0 ↔ l_2.toInt < ((Int64.ofNat 0)).toInt) := lc_i h1043 h1044
                      have hc1046 : (Int64.ofNat 0).toInt = 0 := rfl
                      refine w_if e23_152 (by omega) (fun (h1047 : q1041 ≠ 0) => ?_) (fun (h1047 : q1041 = 0) => ?_)
                      ·
                        refine w_kI e23_161 ?_
                        exfalso; omega
                      ·
                        refine w_ldA e23_155 (fun _ => rfl) rfl ?_
                        refine w_ldI e23_156 (fun _ => rfl) rfl ?_
                        refine w_cv e23_158 (by decide) rfl (hM1040.2.2.1) rfl (Nat.le_of_ble_eq_true rfl) (Nat.le_of_ble_eq_true rfl) (Nat.le_of_ble_eq_true rfl) (by decide) (by decide) (c25x hM1040 (by omega) (i1 := x5) (by omega) (by omega)) (fun o1048 v1049 hq1050 => ?_)
                        obtain ⟨hM1051, rfl⟩ := hq1050
                        refine w_kI e23_161 ?_
                        exfalso; omega
                    ·
                      refine w_ldA e23_125 (fun _ => rfl) rfl ?_
                      refine w_ldI e23_126 (fun _ => rfl) rfl ?_
                      refine w_cv e23_128 (by decide) rfl (hM.2.2.1) rfl (Nat.le_of_ble_eq_true rfl) (Nat.le_of_ble_eq_true rfl) (Nat.le_of_ble_eq_true rfl) (by decide) (by decide) (c24x hM (by omega) (i1 := x5) (by omega) (by omega)) (fun o1052 v1053 hq1054 => ?_)
                      obtain ⟨hM1055, rfl⟩ := hq1054
                      refine w_ldA e23_131 (fun _ => rfl) rfl ?_
                      refine w_get e23_132 hM1055.2.2.1 rfl ?_
                      refine w_ldI e23_135 (fun _ => rfl) rfl ?_
                      refine w_ldL e23_137 (fun _ => rfl) rfl ?_
                      refine w_lst e23_138 (hM1055.2.2.2.1) (by omega) (by omega) (by decide) (fun v1058 b1056 h1057 => ?_)
                      obtain ⟨K1059, hd1060, hM1061⟩ : ∃ z, z = vp_updL (va_cpy K K (x5 : Int).toNat (x5 + 1 : Int).toNat (n - x5 : Int).toNat) (x5).toNat l_1 ∧ pm a0 ((n + 1)) z ((va_cpy F F (x5 : Int).toNat (x5 + 1 : Int).toNat (n - x5 : Int).toNat)) v0 v1058 := ⟨_, rfl, pm_K hM1055 b1056 h1057⟩
                      refine w_ldA e23_139 (fun _ => rfl) rfl ?_
                      refine w_get e23_140 hM1061.2.2.1 rfl ?_
                      refine w_ldI e23_143 (fun _ => rfl) rfl ?_
                      refine w_ldL e23_145 (fun _ => rfl) rfl ?_
                      refine w_lst e23_147 (hM1061.2.2.2.2) (by omega) (by omega) (by decide) (fun v1064 b1062 h1063 => ?_)
                      obtain ⟨F1065, hd1066, hM1067⟩ : ∃ z, z = vp_updL (va_cpy F F (x5 : Int).toNat (x5 + 1 : Int).toNat (n - x5 : Int).toNat) (x5).toNat l_2 ∧ pm a0 ((n + 1)) K1059 z v0 v1064 := ⟨_, rfl, pm_F hM1061 b1062 h1063⟩
                      refine w_ldL e23_148 (fun _ => rfl) rfl ?_
                      refine w_x e23_150 (fun _ => rfl) ?_
                      refine w_lcmp e23_151 (fun q1068 (h1069 : -1 ≤ q1068 ∧ q1068 ≤ 1) h1070 h1071 => ?_)
                      have hc1072 : (q1068 = 0 ↔ l_2.toInt = ((Int64.ofNat 0)).toInt) ∧ (q1068 < 0 ↔ l_2.toInt < ((Int64.ofNat 0)).toInt) := lc_i h1070 h1071
                      have hc1073 : (Int64.ofNat 0).toInt = 0 := rfl
                      refine w_if e23_152 (by omega) (fun (h1074 : q1068 ≠ 0) => ?_) (fun (h1074 : q1068 = 0) => ?_)
                      ·
                        refine w_kI e23_161 ?_
                        exfalso; omega
                      ·
                        refine w_ldA e23_155 (fun _ => rfl) rfl ?_
                        refine w_ldI e23_156 (fun _ => rfl) rfl ?_
                        refine w_cv e23_158 (by decide) rfl (hM1067.2.2.1) rfl (Nat.le_of_ble_eq_true rfl) (Nat.le_of_ble_eq_true rfl) (Nat.le_of_ble_eq_true rfl) (by decide) (by decide) (c25x hM1067 (by omega) (i1 := x5) (by omega) (by omega)) (fun o1075 v1076 hq1077 => ?_)
                        obtain ⟨hM1078, rfl⟩ := hq1077
                        refine w_kI e23_161 ?_
                        exfalso; omega
                  ·
                    refine w_ldA e23_109 (fun _ => rfl) rfl ?_
                    refine w_get e23_110 hM.2.2.1 rfl ?_
                    refine w_kB e23_113 rfl ?_
                    refine w_ic e23_115 (by omega) (by omega) (fun (h1079 : n < 60) => ?_) (fun (h1079 : 60 ≤ n) => ?_)
                    ·
                      refine w_ldI e23_120 (fun _ => rfl) rfl ?_
                      refine w_if e23_122 (by omega) (fun (h1080 : 1 ≠ 0) => ?_) (fun (h1080 : 1 = 0) => ?_)
                      ·
                        refine w_ldA e23_139 (fun _ => rfl) rfl ?_
                        refine w_get e23_140 hM.2.2.1 rfl ?_
                        refine w_ldI e23_143 (fun _ => rfl) rfl ?_
                        refine w_ldL e23_145 (fun _ => rfl) rfl ?_
                        refine w_lst e23_147 (hM.2.2.2.2) (by omega) (by omega) (by decide) (fun v1083 b1081 h1082 => ?_)
                        obtain ⟨F1084, hd1085, hM1086⟩ : ∃ z, z = vp_updL F (x5).toNat l_2 ∧ pm a0 n K z v0 v1083 := ⟨_, rfl, pm_F hM b1081 h1082⟩
                        refine w_ldL e23_148 (fun _ => rfl) rfl ?_
                        refine w_x e23_150 (fun _ => rfl) ?_
                        refine w_lcmp e23_151 (fun q1087 (h1088 : -1 ≤ q1087 ∧ q1087 ≤ 1) h1089 h1090 => ?_)
                        have hc1091 : (q1087 = 0 ↔ l_2.toInt = ((Int64.ofNat 0)).toInt) ∧ (q1087 < 0 ↔ l_2.toInt < ((Int64.ofNat 0)).toInt) := lc_i h1089 h1090
                        have hc1092 : (Int64.ofNat 0).toInt = 0 := rfl
                        refine w_if e23_152 (by omega) (fun (h1093 : q1087 ≠ 0) => ?_) (fun (h1093 : q1087 = 0) => ?_)
                        ·
                          refine w_kI e23_161 ?_
                          exfalso; omega
                        ·
                          refine w_ldA e23_155 (fun _ => rfl) rfl ?_
                          refine w_ldI e23_156 (fun _ => rfl) rfl ?_
                          refine w_cv e23_158 (by decide) rfl (hM1086.2.2.1) rfl (Nat.le_of_ble_eq_true rfl) (Nat.le_of_ble_eq_true rfl) (Nat.le_of_ble_eq_true rfl) (by decide) (by decide) (c25x hM1086 (by omega) (i1 := x5) (by omega) (by omega)) (fun o1094 v1095 hq1096 => ?_)
                          obtain ⟨hM1097, rfl⟩ := hq1096
                          refine w_kI e23_161 ?_
                          exfalso; omega
                      ·
                        refine w_ldA e23_125 (fun _ => rfl) rfl ?_
                        refine w_ldI e23_126 (fun _ => rfl) rfl ?_
                        refine w_cv e23_128 (by decide) rfl (hM.2.2.1) rfl (Nat.le_of_ble_eq_true rfl) (Nat.le_of_ble_eq_true rfl) (Nat.le_of_ble_eq_true rfl) (by decide) (by decide) (c24x hM (by omega) (i1 := x5) (by omega) (by omega)) (fun o1098 v1099 hq1100 => ?_)
                        obtain ⟨hM1101, rfl⟩ := hq1100
                        refine w_ldA e23_131 (fun _ => rfl) rfl ?_
                        refine w_get e23_132 hM1101.2.2.1 rfl ?_
                        refine w_ldI e23_135 (fun _ => rfl) rfl ?_
                        refine w_ldL e23_137 (fun _ => rfl) rfl ?_
                        refine w_lst e23_138 (hM1101.2.2.2.1) (by omega) (by omega) (by decide) (fun v1104 b1102 h1103 => ?_)
                        obtain ⟨K1105, hd1106, hM1107⟩ : ∃ z, z = vp_updL (va_cpy K K (x5 : Int).toNat (x5 + 1 : Int).toNat (n - x5 : Int).toNat) (x5).toNat l_1 ∧ pm a0 ((n + 1)) z ((va_cpy F F (x5 : Int).toNat (x5 + 1 : Int).toNat (n - x5 : Int).toNat)) v0 v1104 := ⟨_, rfl, pm_K hM1101 b1102 h1103⟩
                        refine w_ldA e23_139 (fun _ => rfl) rfl ?_
                        refine w_get e23_140 hM1107.2.2.1 rfl ?_
                        refine w_ldI e23_143 (fun _ => rfl) rfl ?_
                        refine w_ldL e23_145 (fun _ => rfl) rfl ?_
                        refine w_lst e23_147 (hM1107.2.2.2.2) (by omega) (by omega) (by decide) (fun v1110 b1108 h1109 => ?_)
                        obtain ⟨F1111, hd1112, hM1113⟩ : ∃ z, z = vp_updL (va_cpy F F (x5 : Int).toNat (x5 + 1 : Int).toNat (n - x5 : Int).toNat) (x5).toNat l_2 ∧ pm a0 ((n + 1)) K1105 z v0 v1110 := ⟨_, rfl, pm_F hM1107 b1108 h1109⟩
                        refine w_ldL e23_148 (fun _ => rfl) rfl ?_
                        refine w_x e23_150 (fun _ => rfl) ?_
                        refine w_lcmp e23_151 (fun q1114 (h1115 : -1 ≤ q1114 ∧ q1114 ≤ 1) h1116 h1117 => ?_)
                        have hc1118 : (q1114 = 0 ↔ l_2.toInt = ((Int64.ofNat 0)).toInt) ∧ (q1114 < 0 ↔ l_2.toInt < ((Int64.ofNat 0)).toInt) := lc_i h1116 h1117
                        have hc1119 : (Int64.ofNat 0).toInt = 0 := rfl
                        refine w_if e23_152 (by omega) (fun (h1120 : q1114 ≠ 0) => ?_) (fun (h1120 : q1114 = 0) => ?_)
                        ·
                          refine w_kI e23_161 ?_
                          exfalso; omega
                        ·
                          refine w_ldA e23_155 (fun _ => rfl) rfl ?_
                          refine w_ldI e23_156 (fun _ => rfl) rfl ?_
                          refine w_cv e23_158 (by decide) rfl (hM1113.2.2.1) rfl (Nat.le_of_ble_eq_true rfl) (Nat.le_of_ble_eq_true rfl) (Nat.le_of_ble_eq_true rfl) (by decide) (by decide) (c25x hM1113 (by omega) (i1 := x5) (by omega) (by omega)) (fun o1121 v1122 hq1123 => ?_)
                          obtain ⟨hM1124, rfl⟩ := hq1123
                          refine w_kI e23_161 ?_
                          exfalso; omega
                    ·
                      refine w_kI e23_118 ?_
                      exfalso; omega
              ·
                refine w_ldA e23_81 (fun _ => rfl) rfl ?_
                refine w_get e23_82 hM.2.2.1 rfl ?_
                refine w_ldI e23_85 (fun _ => rfl) rfl ?_
                refine w_lld e23_87 (hM.2.2.2.2) (by omega) (by omega) (by decide) ?_
                have hg9 := hgl (x5).toNat (by omega)
                have hg8 := hg9.2
                refine w_ldL e23_88 (fun _ => rfl) rfl ?_
                refine w_x e23_89 (fun _ => rfl) ?_
                have hl1125 := l_add (x := ((F (x5).toNat))) (y := l_2) (by omega) (by omega)
                refine w_x e23_90 (fun _ => rfl) ?_
                refine w_stL (j := 7) (A1 := [some (.ref a0), some (.long l_1), none, some (.long l_2), none, some (.int (vz x5)), some (.int (vz 1)), some (.long ((((F (x5).toNat)) + l_2))), none]) e23_94 (fun _ => rfl) (by decide) rfl ?_
                refine w_ldL e23_96 (fun _ => rfl) rfl ?_
                refine w_cs e23_98 (by decide) (Nat.le_of_ble_eq_true rfl) (Nat.le_of_ble_eq_true rfl) (Nat.le_of_ble_eq_true rfl) (by decide) (by decide) c74x (fun o1126 v1127 hq1128 => ?_)
                obtain ⟨rfl, q1129, h1130, rfl⟩ := hq1128
                refine w_if e23_101 (by omega) (fun (h1131 : q1129 = 0) => ?_) (fun (h1131 : q1129 ≠ 0) => ?_)
                ·
                  refine w_kI e23_118 ?_
                  exact w_rz e23_119 rfl (by omega) ⟨0, n, K, F, x5, hM, Or.inr ⟨hvr, ⟨by omega, hi0, fun h9 => by omega⟩, Or.inl ⟨rfl, rfl, rfl, rfl, Or.inl ⟨⟨by omega, hkn⟩, fun h9 => by unfold sr at h9; omega⟩⟩⟩, rfl⟩
                ·
                  refine w_ldI e23_104 (fun _ => rfl) rfl ?_
                  refine w_if e23_106 (by omega) (fun (h1132 : 1 ≠ 0) => ?_) (fun (h1132 : 1 = 0) => ?_)
                  ·
                    refine w_ldI e23_120 (fun _ => rfl) rfl ?_
                    refine w_if e23_122 (by omega) (fun (h1133 : 1 ≠ 0) => ?_) (fun (h1133 : 1 = 0) => ?_)
                    ·
                      refine w_ldA e23_139 (fun _ => rfl) rfl ?_
                      refine w_get e23_140 hM.2.2.1 rfl ?_
                      refine w_ldI e23_143 (fun _ => rfl) rfl ?_
                      refine w_ldL e23_145 (fun _ => rfl) rfl ?_
                      refine w_lst e23_147 (hM.2.2.2.2) (by omega) (by omega) (by decide) (fun v1136 b1134 h1135 => ?_)
                      obtain ⟨F1137, hd1138, hM1139⟩ : ∃ z, z = vp_updL F (x5).toNat ((((F (x5).toNat)) + l_2)) ∧ pm a0 n K z v0 v1136 := ⟨_, rfl, pm_F hM b1134 h1135⟩
                      refine w_ldL e23_148 (fun _ => rfl) rfl ?_
                      refine w_x e23_150 (fun _ => rfl) ?_
                      refine w_lcmp e23_151 (fun q1140 (h1141 : -1 ≤ q1140 ∧ q1140 ≤ 1) h1142 h1143 => ?_)
                      have hc1144 : (q1140 = 0 ↔ ((((F (x5).toNat)) + l_2)).toInt = ((Int64.ofNat 0)).toInt) ∧ (q1140 < 0 ↔ ((((F (x5).toNat)) + l_2)).toInt < ((Int64.ofNat 0)).toInt) := lc_i h1142 h1143
                      have hc1145 : (Int64.ofNat 0).toInt = 0 := rfl
                      refine w_if e23_152 (by omega) (fun (h1146 : q1140 ≠ 0) => ?_) (fun (h1146 : q1140 = 0) => ?_)
                      ·
                        refine w_kI e23_161 ?_
                        exact w_rz e23_162 rfl (by omega) ⟨1, n, K, F1137, x5, hM1139, Or.inr ⟨hvr, ⟨by omega, hi0, fun h9 => by omega⟩, Or.inr (Or.inr (Or.inl ⟨rfl, ⟨by omega, hkn⟩, by unfold sr; omega, by omega, rfl, rfl, hd1138⟩))⟩, rfl⟩
                      ·
                        refine w_ldA e23_155 (fun _ => rfl) rfl ?_
                        refine w_ldI e23_156 (fun _ => rfl) rfl ?_
                        refine w_cv e23_158 (by decide) rfl (hM1139.2.2.1) rfl (Nat.le_of_ble_eq_true rfl) (Nat.le_of_ble_eq_true rfl) (Nat.le_of_ble_eq_true rfl) (by decide) (by decide) (c25x hM1139 (by omega) (i1 := x5) (by omega) (by omega)) (fun o1147 v1148 hq1149 => ?_)
                        obtain ⟨hM1150, rfl⟩ := hq1149
                        refine w_kI e23_161 ?_
                        exact w_rz e23_162 rfl (by omega) ⟨1, (n - 1), (va_cpy K K (x5 + 1 : Int).toNat (x5 : Int).toNat (n - x5 - 1 : Int).toNat), (va_cpy F1137 F1137 (x5 + 1 : Int).toNat (x5 : Int).toNat (n - x5 - 1 : Int).toNat), x5, hM1150, Or.inr ⟨hvr, ⟨by omega, hi0, fun h9 => by omega⟩, Or.inr (Or.inr (Or.inr ⟨rfl, ⟨by omega, hkn⟩, by omega, rfl, rfl, by rw [hd1138]⟩))⟩, rfl⟩
                    ·
                      refine w_ldA e23_125 (fun _ => rfl) rfl ?_
                      refine w_ldI e23_126 (fun _ => rfl) rfl ?_
                      refine w_cv e23_128 (by decide) rfl (hM.2.2.1) rfl (Nat.le_of_ble_eq_true rfl) (Nat.le_of_ble_eq_true rfl) (Nat.le_of_ble_eq_true rfl) (by decide) (by decide) (c24x hM (by omega) (i1 := x5) (by omega) (by omega)) (fun o1151 v1152 hq1153 => ?_)
                      obtain ⟨hM1154, rfl⟩ := hq1153
                      refine w_ldA e23_131 (fun _ => rfl) rfl ?_
                      refine w_get e23_132 hM1154.2.2.1 rfl ?_
                      refine w_ldI e23_135 (fun _ => rfl) rfl ?_
                      refine w_ldL e23_137 (fun _ => rfl) rfl ?_
                      refine w_lst e23_138 (hM1154.2.2.2.1) (by omega) (by omega) (by decide) (fun v1157 b1155 h1156 => ?_)
                      obtain ⟨K1158, hd1159, hM1160⟩ : ∃ z, z = vp_updL (va_cpy K K (x5 : Int).toNat (x5 + 1 : Int).toNat (n - x5 : Int).toNat) (x5).toNat l_1 ∧ pm a0 ((n + 1)) z ((va_cpy F F (x5 : Int).toNat (x5 + 1 : Int).toNat (n - x5 : Int).toNat)) v0 v1157 := ⟨_, rfl, pm_K hM1154 b1155 h1156⟩
                      refine w_ldA e23_139 (fun _ => rfl) rfl ?_
                      refine w_get e23_140 hM1160.2.2.1 rfl ?_
                      refine w_ldI e23_143 (fun _ => rfl) rfl ?_
                      refine w_ldL e23_145 (fun _ => rfl) rfl ?_
                      refine w_lst e23_147 (hM1160.2.2.2.2) (by omega) (by omega) (by decide) (fun v1163 b1161 h1162 => ?_)
                      obtain ⟨F1164, hd1165, hM1166⟩ : ∃ z, z = vp_updL (va_cpy F F (x5 : Int).toNat (x5 + 1 : Int).toNat (n - x5 : Int).toNat) (x5).toNat ((((F (x5).toNat)) + l_2)) ∧ pm a0 ((n + 1)) K1158 z v0 v1163 := ⟨_, rfl, pm_F hM1160 b1161 h1162⟩
                      refine w_ldL e23_148 (fun _ => rfl) rfl ?_
                      refine w_x e23_150 (fun _ => rfl) ?_
                      refine w_lcmp e23_151 (fun q1167 (h1168 : -1 ≤ q1167 ∧ q1167 ≤ 1) h1169 h1170 => ?_)
                      have hc1171 : (q1167 = 0 ↔ ((((F (x5).toNat)) + l_2)).toInt = ((Int64.ofNat 0)).toInt) ∧ (q1167 < 0 ↔ ((((F (x5).toNat)) + l_2)).toInt < ((Int64.ofNat 0)).toInt) := lc_i h1169 h1170
                      have hc1172 : (Int64.ofNat 0).toInt = 0 := rfl
                      refine w_if e23_152 (by omega) (fun (h1173 : q1167 ≠ 0) => ?_) (fun (h1173 : q1167 = 0) => ?_)
                      ·
                        refine w_kI e23_161 ?_
                        exfalso; omega
                      ·
                        refine w_ldA e23_155 (fun _ => rfl) rfl ?_
                        refine w_ldI e23_156 (fun _ => rfl) rfl ?_
                        refine w_cv e23_158 (by decide) rfl (hM1166.2.2.1) rfl (Nat.le_of_ble_eq_true rfl) (Nat.le_of_ble_eq_true rfl) (Nat.le_of_ble_eq_true rfl) (by decide) (by decide) (c25x hM1166 (by omega) (i1 := x5) (by omega) (by omega)) (fun o1174 v1175 hq1176 => ?_)
                        obtain ⟨hM1177, rfl⟩ := hq1176
                        refine w_kI e23_161 ?_
                        exfalso; omega
                  ·
                    refine w_ldA e23_109 (fun _ => rfl) rfl ?_
                    refine w_get e23_110 hM.2.2.1 rfl ?_
                    refine w_kB e23_113 rfl ?_
                    refine w_ic e23_115 (by omega) (by omega) (fun (h1178 : n < 60) => ?_) (fun (h1178 : 60 ≤ n) => ?_)
                    ·
                      refine w_ldI e23_120 (fun _ => rfl) rfl ?_
                      refine w_if e23_122 (by omega) (fun (h1179 : 1 ≠ 0) => ?_) (fun (h1179 : 1 = 0) => ?_)
                      ·
                        refine w_ldA e23_139 (fun _ => rfl) rfl ?_
                        refine w_get e23_140 hM.2.2.1 rfl ?_
                        refine w_ldI e23_143 (fun _ => rfl) rfl ?_
                        refine w_ldL e23_145 (fun _ => rfl) rfl ?_
                        refine w_lst e23_147 (hM.2.2.2.2) (by omega) (by omega) (by decide) (fun v1182 b1180 h1181 => ?_)
                        obtain ⟨F1183, hd1184, hM1185⟩ : ∃ z, z = vp_updL F (x5).toNat ((((F (x5).toNat)) + l_2)) ∧ pm a0 n K z v0 v1182 := ⟨_, rfl, pm_F hM b1180 h1181⟩
                        refine w_ldL e23_148 (fun _ => rfl) rfl ?_
                        refine w_x e23_150 (fun _ => rfl) ?_
                        refine w_lcmp e23_151 (fun q1186 (h1187 : -1 ≤ q1186 ∧ q1186 ≤ 1) h1188 h1189 => ?_)
                        have hc1190 : (q1186 = 0 ↔ ((((F (x5).toNat)) + l_2)).toInt = ((Int64.ofNat 0)).toInt) ∧ (q1186 < 0 ↔ ((((F (x5).toNat)) + l_2)).toInt < ((Int64.ofNat 0)).toInt) := lc_i h1188 h1189
                        have hc1191 : (Int64.ofNat 0).toInt = 0 := rfl
                        refine w_if e23_152 (by omega) (fun (h1192 : q1186 ≠ 0) => ?_) (fun (h1192 : q1186 = 0) => ?_)
                        ·
                          refine w_kI e23_161 ?_
                          exact w_rz e23_162 rfl (by omega) ⟨1, n, K, F1183, x5, hM1185, Or.inr ⟨hvr, ⟨by omega, hi0, fun h9 => by omega⟩, Or.inr (Or.inr (Or.inl ⟨rfl, ⟨by omega, hkn⟩, by unfold sr; omega, by omega, rfl, rfl, hd1184⟩))⟩, rfl⟩
                        ·
                          refine w_ldA e23_155 (fun _ => rfl) rfl ?_
                          refine w_ldI e23_156 (fun _ => rfl) rfl ?_
                          refine w_cv e23_158 (by decide) rfl (hM1185.2.2.1) rfl (Nat.le_of_ble_eq_true rfl) (Nat.le_of_ble_eq_true rfl) (Nat.le_of_ble_eq_true rfl) (by decide) (by decide) (c25x hM1185 (by omega) (i1 := x5) (by omega) (by omega)) (fun o1193 v1194 hq1195 => ?_)
                          obtain ⟨hM1196, rfl⟩ := hq1195
                          refine w_kI e23_161 ?_
                          exact w_rz e23_162 rfl (by omega) ⟨1, (n - 1), (va_cpy K K (x5 + 1 : Int).toNat (x5 : Int).toNat (n - x5 - 1 : Int).toNat), (va_cpy F1183 F1183 (x5 + 1 : Int).toNat (x5 : Int).toNat (n - x5 - 1 : Int).toNat), x5, hM1196, Or.inr ⟨hvr, ⟨by omega, hi0, fun h9 => by omega⟩, Or.inr (Or.inr (Or.inr ⟨rfl, ⟨by omega, hkn⟩, by omega, rfl, rfl, by rw [hd1184]⟩))⟩, rfl⟩
                      ·
                        refine w_ldA e23_125 (fun _ => rfl) rfl ?_
                        refine w_ldI e23_126 (fun _ => rfl) rfl ?_
                        refine w_cv e23_128 (by decide) rfl (hM.2.2.1) rfl (Nat.le_of_ble_eq_true rfl) (Nat.le_of_ble_eq_true rfl) (Nat.le_of_ble_eq_true rfl) (by decide) (by decide) (c24x hM (by omega) (i1 := x5) (by omega) (by omega)) (fun o1197 v1198 hq1199 => ?_)
                        obtain ⟨hM1200, rfl⟩ := hq1199
                        refine w_ldA e23_131 (fun _ => rfl) rfl ?_
                        refine w_get e23_132 hM1200.2.2.1 rfl ?_
                        refine w_ldI e23_135 (fun _ => rfl) rfl ?_
                        refine w_ldL e23_137 (fun _ => rfl) rfl ?_
                        refine w_lst e23_138 (hM1200.2.2.2.1) (by omega) (by omega) (by decide) (fun v1203 b1201 h1202 => ?_)
                        obtain ⟨K1204, hd1205, hM1206⟩ : ∃ z, z = vp_updL (va_cpy K K (x5 : Int).toNat (x5 + 1 : Int).toNat (n - x5 : Int).toNat) (x5).toNat l_1 ∧ pm a0 ((n + 1)) z ((va_cpy F F (x5 : Int).toNat (x5 + 1 : Int).toNat (n - x5 : Int).toNat)) v0 v1203 := ⟨_, rfl, pm_K hM1200 b1201 h1202⟩
                        refine w_ldA e23_139 (fun _ => rfl) rfl ?_
                        refine w_get e23_140 hM1206.2.2.1 rfl ?_
                        refine w_ldI e23_143 (fun _ => rfl) rfl ?_
                        refine w_ldL e23_145 (fun _ => rfl) rfl ?_
                        refine w_lst e23_147 (hM1206.2.2.2.2) (by omega) (by omega) (by decide) (fun v1209 b1207 h1208 => ?_)
                        obtain ⟨F1210, hd1211, hM1212⟩ : ∃ z, z = vp_updL (va_cpy F F (x5 : Int).toNat (x5 + 1 : Int).toNat (n - x5 : Int).toNat) (x5).toNat ((((F (x5).toNat)) + l_2)) ∧ pm a0 ((n + 1)) K1204 z v0 v1209 := ⟨_, rfl, pm_F hM1206 b1207 h1208⟩
                        refine w_ldL e23_148 (fun _ => rfl) rfl ?_
                        refine w_x e23_150 (fun _ => rfl) ?_
                        refine w_lcmp e23_151 (fun q1213 (h1214 : -1 ≤ q1213 ∧ q1213 ≤ 1) h1215 h1216 => ?_)
                        have hc1217 : (q1213 = 0 ↔ ((((F (x5).toNat)) + l_2)).toInt = ((Int64.ofNat 0)).toInt) ∧ (q1213 < 0 ↔ ((((F (x5).toNat)) + l_2)).toInt < ((Int64.ofNat 0)).toInt) := lc_i h1215 h1216
                        have hc1218 : (Int64.ofNat 0).toInt = 0 := rfl
                        refine w_if e23_152 (by omega) (fun (h1219 : q1213 ≠ 0) => ?_) (fun (h1219 : q1213 = 0) => ?_)
                        ·
                          refine w_kI e23_161 ?_
                          exfalso; omega
                        ·
                          refine w_ldA e23_155 (fun _ => rfl) rfl ?_
                          refine w_ldI e23_156 (fun _ => rfl) rfl ?_
                          refine w_cv e23_158 (by decide) rfl (hM1212.2.2.1) rfl (Nat.le_of_ble_eq_true rfl) (Nat.le_of_ble_eq_true rfl) (Nat.le_of_ble_eq_true rfl) (by decide) (by decide) (c25x hM1212 (by omega) (i1 := x5) (by omega) (by omega)) (fun o1220 v1221 hq1222 => ?_)
                          obtain ⟨hM1223, rfl⟩ := hq1222
                          refine w_kI e23_161 ?_
                          exfalso; omega
                    ·
                      refine w_kI e23_118 ?_
                      exact w_rz e23_119 rfl (by omega) ⟨0, n, K, F, x5, hM, Or.inr ⟨hvr, ⟨by omega, hi0, fun h9 => by omega⟩, Or.inl ⟨rfl, rfl, rfl, rfl, Or.inl ⟨⟨by omega, hkn⟩, fun h9 => by unfold sr at h9; omega⟩⟩⟩, rfl⟩
        ·
          refine w_iinc (A1 := [some (.ref a0), some (.long l_1), none, some (.long l_2), none, some (.int (vz (x5 + 1))), none, none, none]) e23_42 rfl (by decide) rfl ?_
          refine w_x e23_45 (fun _ => rfl) ?_
          exact w_sub (A1 := [some (.ref a0), some (.long l_1), none, some (.long l_2), none, some (.int (vz (x5 + 1))), none, none, none]) (And.intro rfl (And.intro rfl (And.intro rfl (And.intro rfl trivial)))) ((ih) vh (x5 + 1) hM (by omega) (fun j hj => by by_cases h9 : (j : Int) < x5; exact hi0 j h9; rw [show j = (x5).toNat by omega]; omega) hvr (by omega))
set_option maxRecDepth 100000 in
set_option maxHeartbeats 4000000 in
theorem c23x {a0 : Nat} {n : Int} {K F : Nat → Int64} {v0 vh : vm_H} (hM : pm a0 n K F v0 vh) (hn : 0 ≤ n ∧ n ≤ 60) {l_1 : Int64} {l_2 : Int64} (hv : l_2.toInt ≠ 0) (hgl : ∀ t : Nat, (t : Int) < n → gl (F t)) : vm_Rp 2 51 23 [.ref a0, .long l_1, .long l_2] vh (fun r v1 => ∃ (q n1 : Int) (K1 F1 : Nat → Int64) (t : Int), pm a0 n1 K1 F1 v0 v1 ∧ adr n K F l_1 l_2 q n1 K1 F1 t ∧ r = some (.int (vz q))) := by
  refine w_in (m := 4) ?_
  show vm_Wp _ _ _ 0 [some (.ref a0), some (.long l_1), none, some (.long l_2), none, none, none, none, none] [] _ _
  refine w_ldL e23_0 (fun _ => rfl) rfl ?_
  refine w_x e23_1 (fun _ => rfl) ?_
  refine w_lcmp e23_4 (fun q1 (h2 : -1 ≤ q1 ∧ q1 ≤ 1) h3 h4 => ?_)
  have hc5 : (q1 = 0 ↔ l_2.toInt = ((Int64.ofNat 18446744073575333888)).toInt) ∧ (q1 < 0 ↔ l_2.toInt < ((Int64.ofNat 18446744073575333888)).toInt) := lc_i h3 h4
  have hc6 : (Int64.ofNat 18446744073575333888).toInt = -134217728 := rfl
  refine w_if e23_5 (by omega) (fun (h7 : q1 < 0) => ?_) (fun (h7 : 0 ≤ q1) => ?_)
  ·
    refine w_kI e23_16 ?_
    exact w_rz e23_17 rfl (by omega) ⟨0, n, K, F, 0, hM, Or.inl ⟨rfl, rfl, rfl, rfl, fun h9 => by unfold vr at h9; omega⟩, rfl⟩
  ·
    refine w_ldL e23_8 (fun _ => rfl) rfl ?_
    refine w_x e23_9 (fun _ => rfl) ?_
    refine w_lcmp e23_12 (fun q8 (h9 : -1 ≤ q8 ∧ q8 ≤ 1) h10 h11 => ?_)
    have hc12 : (q8 = 0 ↔ l_2.toInt = ((Int64.ofNat 134217728)).toInt) ∧ (q8 < 0 ↔ l_2.toInt < ((Int64.ofNat 134217728)).toInt) := lc_i h10 h11
    have hc13 : (Int64.ofNat 134217728).toInt = 134217728 := rfl
    refine w_if e23_13 (by omega) (fun (h14 : q8 ≤ 0) => ?_) (fun (h14 : 0 < q8) => ?_)
    ·
      refine w_kI e23_18 ?_
      refine w_stI (j := 5) (A1 := [some (.ref a0), some (.long l_1), none, some (.long l_2), none, some (.int (vz 0)), none, none, none]) e23_19 (fun _ => rfl) (by decide) rfl ?_
      exact w_sub (A1 := [some (.ref a0), some (.long l_1), none, some (.long l_2), none, some (.int (vz 0)), none, none, none]) (And.intro rfl (And.intro rfl (And.intro rfl (And.intro rfl trivial)))) (((c23x_L (a0 := a0) (n := n) (K := K) (F := F) (v0 := v0) (l_1 := l_1) (l_2 := l_2) hn hv hgl _)) vh 0 hM (by omega) (fun j hj => by omega) ⟨by omega, by omega⟩ (Nat.lt_succ_self _))
    ·
      refine w_kI e23_16 ?_
      exact w_rz e23_17 rfl (by omega) ⟨0, n, K, F, 0, hM, Or.inl ⟨rfl, rfl, rfl, rfl, fun h9 => by unfold vr at h9; omega⟩, rfl⟩
