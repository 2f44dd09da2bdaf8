set_option maxRecDepth 100000 in
set_option maxHeartbeats 4000000 in
theorem c70 {θ : tc_S} {v0 : (Bool × Bool) × vm_H} {vh : vm_H} (hz : v0.1.1 = false) (hT : tc θ v0 vh) {a1 : Nat} (ha1 : ty a1 = 3) : vm_Rp 4 115 70 [.ref 1, .ref a1] vh (fun r v1 => (tc θ v0 v1) ∧ ∃ q : Int, (-2147483648 ≤ q ∧ q < 2147483648) ∧ r = some (.int (vz q))) := by
  have hok : (0 ≤ θ.1 ∧ θ.1 ≤ 8) ∧ (0 ≤ θ.2.1 ∧ θ.2.1 ≤ 16) ∧ (-2147483648 ≤ θ.2.2.2.1 ∧ θ.2.2.2.1 < 2147483648) ∧ (0 ≤ θ.2.2.2.2 ∧ θ.2.2.2.2 ≤ 8) := hT.1
  refine w_in (m := 1) ?_
  show vm_Wp _ _ _ 0 [some (.ref 1), some (.ref a1), none] [] _ _
  refine w_ldA e70_0 (fun _ => rfl) rfl ?_
  obtain ⟨m2, m3, m4, m5, hm6, hm7, hm8, hm9, hm10, hm11, e1⟩ := tc_main hT
  refine w_get e70_1 e1 rfl ?_
  refine w_ldA e70_4 (fun _ => rfl) rfl ?_
  obtain ⟨p13, d14, hp15, hd16, e12⟩ := tc_row hT ha1
  refine w_get e70_5 e12 rfl ?_
  obtain ⟨c18, hc19, e17⟩ := tc_poly hT (rfl : ty 234 = 1)
  refine w_cv e70_8 (by decide) rfl e17 rfl (Nat.le_of_ble_eq_true rfl) (Nat.le_of_ble_eq_true rfl) (Nat.le_of_ble_eq_true rfl) (by decide) (by decide) (c19 (tc_fz hT) (rfl : ty 234 = 1) (Or.inr (by decide)) (ty_r ha1)) (fun o20 v21 hq22 => ?_)
  obtain ⟨hT23, rfl⟩ := hq22
  have hT24 := tc_uf hT hT23
  have e25 := (tc_k1 hT23).trans e1
  refine w_ldA e70_11 (fun _ => rfl) rfl ?_
  refine w_kS e70_12 rfl ?_
  refine w_kS e70_15 rfl ?_
  refine w_ldA e70_18 (fun _ => rfl) rfl ?_
  refine w_get e70_19 e25 rfl ?_
  refine w_isub e70_22 ?_
  refine w_norm (fun q26 h27 => ?_)
  refine w_min e70_23 (by omega) h27 (Nat.le_of_ble_eq_true rfl) (by decide) (by decide) (fun q28 h29 => ?_)
  refine w_cv e70_26 (by decide) rfl e25 rfl (Nat.le_of_ble_eq_true rfl) (Nat.le_of_ble_eq_true rfl) (Nat.le_of_ble_eq_true rfl) (by decide) (by decide) (c72 hz hT24 (by omega)) (fun o30 v31 hq32 => ?_)
  obtain ⟨hT33, q34, h35, rfl⟩ := hq32
  refine w_stI (j := 2) (A1 := [some (.ref 1), some (.ref a1), some (.int (vz q34))]) e70_29 (fun _ => rfl) (by decide) rfl ?_
  refine w_ldA e70_30 (fun _ => rfl) rfl ?_
  refine w_x e70_31 (fun _ => rfl) ?_
  obtain ⟨m37, m38, m39, m40, hm41, hm42, hm43, hm44, hm45, hm46, e36⟩ := tc_main hT33
  refine w_get e70_32 e36 rfl ?_
  refine w_ldA e70_35 (fun _ => rfl) rfl ?_
  refine w_get e70_36 e36 rfl ?_
  refine w_iadd e70_39 ?_
  refine w_put e70_40 e36 (Nat.le_of_ble_eq_true rfl) rfl (fun v49 b47 h48 => ?_)
  have h48 : vm_at v49 1 = some (.inr (5, [.ref 2, .ref 6, .ref 55, .int (vz θ.2.1), .ref 56, .int (vz m37), .ref 217, .ref 219, .ref 224, .ref 227, .ref 230, .ref 233, .ref 234, .ref 237, .int (vz m38), .int (vz θ.2.2.2.1), .int (vz (m39 + m38)), .int (vz m40)])) := h48
  have hT50 := ts_main hz hT33 (by omega) b47 h48
  refine w_ldI e70_43 (fun _ => rfl) rfl ?_
  refine w_if e70_44 (by omega) (fun (h51 : q34 ≠ 0) => ?_) (fun (h51 : q34 = 0) => ?_)
  ·
    refine w_ldA e70_49 (fun _ => rfl) rfl ?_
    refine w_get e70_50 h48 rfl ?_
    obtain ⟨c53, hc54, e52⟩ := tc_poly hT50 (rfl : ty 234 = 1)
    refine w_cv e70_53 (by decide) rfl e52 rfl (Nat.le_of_ble_eq_true rfl) (Nat.le_of_ble_eq_true rfl) (Nat.le_of_ble_eq_true rfl) (by decide) (by decide) (c26 (tc_fz hT50) (rfl : ty 234 = 1) (Or.inr (by decide))) (fun o55 v56 hq57 => ?_)
    obtain ⟨hT58, rfl⟩ := hq57
    have hT59 := tc_uf hT50 hT58
    have e60 := (tc_k1 hT58).trans h48
    refine w_ldA e70_56 (fun _ => rfl) rfl ?_
    refine w_get e70_57 e60 rfl ?_
    obtain ⟨c62, hc63, e61⟩ := tc_poly hT59 (rfl : ty 234 = 1)
    refine w_get e70_60 e61 rfl ?_
    refine w_if e70_63 (by omega) (fun (h64 : c62 = 0) => ?_) (fun (h64 : c62 ≠ 0) => ?_)
    ·
      refine w_kI e70_77 ?_
      exact w_ri e70_78 rfl ⟨hT59, 3, (by omega), rfl⟩
    ·
      refine w_ldA e70_66 (fun _ => rfl) rfl ?_
      refine w_ldA e70_67 (fun _ => rfl) rfl ?_
      refine w_get e70_68 e60 rfl ?_
      refine w_cv e70_71 (by decide) rfl e60 rfl (Nat.le_of_ble_eq_true rfl) (Nat.le_of_ble_eq_true rfl) (Nat.le_of_ble_eq_true rfl) (by decide) (by decide) (c71 hz hT59 (rfl : ty 234 = 1)) (fun o65 v66 hq67 => ?_)
      obtain ⟨rfl, q69, h70, rfl⟩ := hq67
      refine w_if e70_74 (by omega) (fun (h71 : q69 = 0) => ?_) (fun (h71 : q69 ≠ 0) => ?_)
      ·
        refine w_ldA e70_79 (fun _ => rfl) rfl ?_
        refine w_get e70_80 e60 rfl ?_
        refine w_ldA e70_83 (fun _ => rfl) rfl ?_
        refine w_get e70_84 e60 rfl ?_
        obtain ⟨hn73, e72⟩ := tc_places hT59
        refine w_cv e70_87 (by decide) rfl e72 rfl (Nat.le_of_ble_eq_true rfl) (Nat.le_of_ble_eq_true rfl) (Nat.le_of_ble_eq_true rfl) (by decide) (by decide) (c12 hT59 (rfl : ty 234 = 1)) (fun o74 v75 hq76 => ?_)
        obtain ⟨rfl, q78, h79, rfl⟩ := hq76
        refine w_kI e70_90 ?_
        refine w_ic e70_91 (by omega) (by omega) (fun (h80 : q78 ≠ -1) => ?_) (fun (h80 : q78 = -1) => ?_)
        ·
          refine w_ldA e70_107 (fun _ => rfl) rfl ?_
          refine w_get e70_108 e60 rfl ?_
          refine w_kB e70_111 rfl ?_
          refine w_ic e70_113 (by omega) (by omega) (fun (h81 : m37 < 40) => ?_) (fun (h81 : 40 ≤ m37) => ?_)
          ·
            refine w_ldA e70_118 (fun _ => rfl) rfl ?_
            refine w_get e70_119 e60 rfl ?_
            refine w_ldA e70_122 (fun _ => rfl) rfl ?_
            refine w_get e70_123 e60 rfl ?_
            obtain ⟨f83, hf84, e82⟩ := tc_rows hT59
            obtain ⟨a85, h86, h87⟩ : ∃ b, f83 (m37).toNat = some b ∧ ty b = 3 := ⟨_, hf84 _ (by omega), ty_ri _ (by omega)⟩
            refine w_qld e70_126 e82 (by decide) (by omega) (by omega) (by decide) h86 ?_
            refine w_ldA e70_127 (fun _ => rfl) rfl ?_
            refine w_get e70_128 e60 rfl ?_
            refine w_ldA e70_131 (fun _ => rfl) rfl ?_
            refine w_get e70_132 e60 rfl ?_
            obtain ⟨p89, d90, hp91, hd92, e88⟩ := tc_row hT59 h87
            refine w_cv e70_135 (by decide) rfl e88 rfl (Nat.le_of_ble_eq_true rfl) (Nat.le_of_ble_eq_true rfl) (Nat.le_of_ble_eq_true rfl) (by decide) (by decide) (c29 (tc_fz hT59) h87 (rfl : ty 234 = 1)) (fun o93 v94 hq95 => ?_)
            obtain ⟨hT96, rfl⟩ := hq95
            have hT97 := tc_uf hT59 hT96
            have e98 := (tc_k1 hT96).trans e60
            refine w_ldA e70_138 (fun _ => rfl) rfl ?_
            refine w_x e70_139 (fun _ => rfl) ?_
            refine w_get e70_140 e98 rfl ?_
            refine w_kI e70_143 ?_
            refine w_iadd e70_144 ?_
            refine w_put e70_145 e98 (Nat.le_of_ble_eq_true rfl) rfl (fun v101 b99 h100 => ?_)
            have h100 : vm_at v101 1 = some (.inr (5, [.ref 2, .ref 6, .ref 55, .int (vz θ.2.1), .ref 56, .int (vz (m37 + 1)), .ref 217, .ref 219, .ref 224, .ref 227, .ref 230, .ref 233, .ref 234, .ref 237, .int (vz m38), .int (vz θ.2.2.2.1), .int (vz (m39 + m38)), .int (vz m40)])) := h100
            have hT102 := ts_main hz hT97 (by omega) b99 h100
            refine w_kI e70_148 ?_
            exact w_ri e70_149 rfl ⟨hT102, 3, (by omega), rfl⟩
          ·
            refine w_kI e70_116 ?_
            exact w_ri e70_117 rfl ⟨hT59, 2, (by omega), rfl⟩
        ·
          refine w_ldA e70_94 (fun _ => rfl) rfl ?_
          refine w_get e70_95 e60 rfl ?_
          refine w_ldA e70_98 (fun _ => rfl) rfl ?_
          refine w_get e70_99 e60 rfl ?_
          obtain ⟨c104, hc105, e103⟩ := tc_poly hT59 (rfl : ty 224 = 1)
          refine w_cv e70_102 (by decide) rfl e103 rfl (Nat.le_of_ble_eq_true rfl) (Nat.le_of_ble_eq_true rfl) (Nat.le_of_ble_eq_true rfl) (by decide) (by decide) (c19 (tc_fz hT59) (rfl : ty 224 = 1) (Or.inr (by decide)) (rfl : ty 234 = 1)) (fun o106 v107 hq108 => ?_)
          obtain ⟨hT109, rfl⟩ := hq108
          have hT110 := tc_uf hT59 hT109
          have e111 := (tc_k1 hT109).trans e60
          refine w_kI e70_105 ?_
          exact w_ri e70_106 rfl ⟨hT110, 0, (by omega), rfl⟩
      ·
        refine w_kI e70_77 ?_
        exact w_ri e70_78 rfl ⟨hT59, 3, (by omega), rfl⟩
  ·
    refine w_kI e70_47 ?_
    exact w_ri e70_48 rfl ⟨hT50, 2, (by omega), rfl⟩
set_option maxRecDepth 100000 in
set_option maxHeartbeats 4000000 in
theorem c62 {θ : tc_S} {v0 : (Bool × Bool) × vm_H} {vh : vm_H} (hz : v0.1.1 = false) (hT : tc θ v0 vh) {i1 : Int} (hi_1 : -2147483648 ≤ i1 ∧ i1 < 2147483648) {i2 : Int} (hi_2 : -2147483648 ≤ i2 ∧ i2 < 2147483648) : vm_Rp 2 47 62 [.ref 1, .int (vz i1), .int (vz i2)] vh (fun r v1 => (tc θ v0 v1) ∧ (r = some .null ∨ ∃ a, ty a = 1 ∧ r = some (.ref a))) := by
  have hok : (0 ≤ θ.1 ∧ θ.1 ≤ 8) ∧ (0 ≤ θ.2.1 ∧ θ.2.1 ≤ 16) ∧ (-2147483648 ≤ θ.2.2.2.1 ∧ θ.2.2.2.1 < 2147483648) ∧ (0 ≤ θ.2.2.2.2 ∧ θ.2.2.2.2 ≤ 8) := hT.1
  refine w_in (m := 0) ?_
  show vm_Wp _ _ _ 0 [some (.ref 1), some (.int (vz i1)), some (.int (vz i2))] [] _ _
  refine w_ldI e62_0 (fun _ => rfl) rfl ?_
  refine w_if e62_1 hi_1 (fun (h1 : i1 ≠ 0) => ?_) (fun (h1 : i1 = 0) => ?_)
  ·
    refine w_ldI e62_19 (fun _ => rfl) rfl ?_
    refine w_kI e62_20 ?_
    refine w_ic e62_21 hi_1 (by omega) (fun (h2 : i1 ≠ 1) => ?_) (fun (h2 : i1 = 1) => ?_)
    ·
      refine w_ldI e62_45 (fun _ => rfl) rfl ?_
      refine w_kI e62_46 ?_
      refine w_ic e62_47 hi_1 (by omega) (fun (h3 : i1 ≠ 2) => ?_) (fun (h3 : i1 = 2) => ?_)
      ·
        refine w_ldI e62_79 (fun _ => rfl) rfl ?_
        refine w_kI e62_80 ?_
        refine w_ic e62_81 hi_1 (by omega) (fun (h4 : i1 ≠ 3) => ?_) (fun (h4 : i1 = 3) => ?_)
        ·
          refine w_ldI e62_93 (fun _ => rfl) rfl ?_
          refine w_kI e62_94 ?_
          refine w_ic e62_95 hi_1 (by omega) (fun (h5 : i1 ≠ 4) => ?_) (fun (h5 : i1 = 4) => ?_)
          ·
            refine w_x e62_107 (fun _ => rfl) ?_
            exact w_rn e62_108 rfl ⟨hT, Or.inl rfl⟩
          ·
            refine w_ldI e62_98 (fun _ => rfl) rfl ?_
            refine w_if e62_99 hi_2 (fun (h6 : i2 ≠ 0) => ?_) (fun (h6 : i2 = 0) => ?_)
            ·
              refine w_x e62_107 (fun _ => rfl) ?_
              exact w_rn e62_108 rfl ⟨hT, Or.inl rfl⟩
            ·
              refine w_ldA e62_102 (fun _ => rfl) rfl ?_
              obtain ⟨m8, m9, m10, m11, hm12, hm13, hm14, hm15, hm16, hm17, e7⟩ := tc_main hT
              refine w_get e62_103 e7 rfl ?_
              exact w_ra e62_106 rfl ⟨hT, Or.inr ⟨_, (rfl : ty 224 = 1), rfl⟩⟩
        ·
          refine w_ldI e62_84 (fun _ => rfl) rfl ?_
          refine w_if e62_85 hi_2 (fun (h18 : i2 ≠ 0) => ?_) (fun (h18 : i2 = 0) => ?_)
          ·
            refine w_ldI e62_93 (fun _ => rfl) rfl ?_
            refine w_kI e62_94 ?_
            refine w_ic e62_95 hi_1 (by omega) (fun (h19 : i1 ≠ 4) => ?_) (fun (h19 : i1 = 4) => ?_)
            ·
              refine w_x e62_107 (fun _ => rfl) ?_
              exact w_rn e62_108 rfl ⟨hT, Or.inl rfl⟩
            ·
              refine w_ldI e62_98 (fun _ => rfl) rfl ?_
              refine w_if e62_99 hi_2 (fun (h20 : i2 ≠ 0) => ?_) (fun (h20 : i2 = 0) => ?_)
              ·
                refine w_x e62_107 (fun _ => rfl) ?_
                exact w_rn e62_108 rfl ⟨hT, Or.inl rfl⟩
              ·
                refine w_ldA e62_102 (fun _ => rfl) rfl ?_
                obtain ⟨m22, m23, m24, m25, hm26, hm27, hm28, hm29, hm30, hm31, e21⟩ := tc_main hT
                refine w_get e62_103 e21 rfl ?_
                exact w_ra e62_106 rfl ⟨hT, Or.inr ⟨_, (rfl : ty 224 = 1), rfl⟩⟩
          ·
            refine w_ldA e62_88 (fun _ => rfl) rfl ?_
            obtain ⟨m33, m34, m35, m36, hm37, hm38, hm39, hm40, hm41, hm42, e32⟩ := tc_main hT
            refine w_get e62_89 e32 rfl ?_
            exact w_ra e62_92 rfl ⟨hT, Or.inr ⟨_, (rfl : ty 227 = 1), rfl⟩⟩
      ·
        refine w_ldA e62_50 (fun _ => rfl) rfl ?_
        refine w_ldI e62_51 (fun _ => rfl) rfl ?_
        obtain ⟨m44, m45, m46, m47, hm48, hm49, hm50, hm51, hm52, hm53, e43⟩ := tc_main hT
        refine w_cv e62_52 (by decide) rfl e43 rfl (Nat.le_of_ble_eq_true rfl) (Nat.le_of_ble_eq_true rfl) (Nat.le_of_ble_eq_true rfl) (by decide) (by decide) (c60 hz hT hi_2) (fun o54 v55 hq56 => ?_)
        obtain ⟨rfl, q58, h59, rfl⟩ := hq56
        refine w_if e62_55 (by omega) (fun (h60 : q58 = 0) => ?_) (fun (h60 : q58 ≠ 0) => ?_)
        ·
          refine w_ldI e62_79 (fun _ => rfl) rfl ?_
          refine w_kI e62_80 ?_
          refine w_ic e62_81 hi_1 (by omega) (fun (h61 : i1 ≠ 3) => ?_) (fun (h61 : i1 = 3) => ?_)
          ·
            refine w_ldI e62_93 (fun _ => rfl) rfl ?_
            refine w_kI e62_94 ?_
            refine w_ic e62_95 hi_1 (by omega) (fun (h62 : i1 ≠ 4) => ?_) (fun (h62 : i1 = 4) => ?_)
            ·
              refine w_x e62_107 (fun _ => rfl) ?_
              exact w_rn e62_108 rfl ⟨hT, Or.inl rfl⟩
            ·
              refine w_ldI e62_98 (fun _ => rfl) rfl ?_
              refine w_if e62_99 hi_2 (fun (h63 : i2 ≠ 0) => ?_) (fun (h63 : i2 = 0) => ?_)
              ·
                refine w_x e62_107 (fun _ => rfl) ?_
                exact w_rn e62_108 rfl ⟨hT, Or.inl rfl⟩
              ·
                refine w_ldA e62_102 (fun _ => rfl) rfl ?_
                refine w_get e62_103 e43 rfl ?_
                exact w_ra e62_106 rfl ⟨hT, Or.inr ⟨_, (rfl : ty 224 = 1), rfl⟩⟩
          ·
            refine w_ldI e62_84 (fun _ => rfl) rfl ?_
            refine w_if e62_85 hi_2 (fun (h64 : i2 ≠ 0) => ?_) (fun (h64 : i2 = 0) => ?_)
            ·
              refine w_ldI e62_93 (fun _ => rfl) rfl ?_
              refine w_kI e62_94 ?_
              refine w_ic e62_95 hi_1 (by omega) (fun (h65 : i1 ≠ 4) => ?_) (fun (h65 : i1 = 4) => ?_)
              ·
                refine w_x e62_107 (fun _ => rfl) ?_
                exact w_rn e62_108 rfl ⟨hT, Or.inl rfl⟩
              ·
                refine w_ldI e62_98 (fun _ => rfl) rfl ?_
                refine w_if e62_99 hi_2 (fun (h66 : i2 ≠ 0) => ?_) (fun (h66 : i2 = 0) => ?_)
                ·
                  refine w_x e62_107 (fun _ => rfl) ?_
                  exact w_rn e62_108 rfl ⟨hT, Or.inl rfl⟩
                ·
                  refine w_ldA e62_102 (fun _ => rfl) rfl ?_
                  refine w_get e62_103 e43 rfl ?_
                  exact w_ra e62_106 rfl ⟨hT, Or.inr ⟨_, (rfl : ty 224 = 1), rfl⟩⟩
            ·
              refine w_ldA e62_88 (fun _ => rfl) rfl ?_
              refine w_get e62_89 e43 rfl ?_
              exact w_ra e62_92 rfl ⟨hT, Or.inr ⟨_, (rfl : ty 227 = 1), rfl⟩⟩
        ·
          refine w_ldA e62_58 (fun _ => rfl) rfl ?_
          refine w_get e62_59 e43 rfl ?_
          refine w_ldA e62_62 (fun _ => rfl) rfl ?_
          refine w_get e62_63 e43 rfl ?_
          obtain ⟨s68, hs69, e67⟩ := tc_tri hT
          refine w_get e62_66 e67 rfl ?_
          refine w_ldI e62_69 (fun _ => rfl) rfl ?_
          obtain ⟨f71, hf72, e70⟩ := tc_mem hT
          obtain ⟨a73, h74, h75⟩ := hf72 (i2).toNat (by omega)
          refine w_qld e62_70 e70 (by decide) (by omega) (by omega) (by decide) h74 ?_
          obtain ⟨c77, hc78, e76⟩ := tc_poly hT (rfl : ty 234 = 1)
          refine w_cv e62_71 (by decide) rfl e76 rfl (Nat.le_of_ble_eq_true rfl) (Nat.le_of_ble_eq_true rfl) (Nat.le_of_ble_eq_true rfl) (by decide) (by decide) (c20 (tc_fz hT) (rfl : ty 234 = 1) (Or.inr (by decide)) h75) (fun o79 v80 hq81 => ?_)
          obtain ⟨hT82, rfl⟩ := hq81
          have hT83 := tc_uf hT hT82
          have e84 := (tc_k1 hT82).trans e43
          refine w_ldA e62_74 (fun _ => rfl) rfl ?_
          refine w_get e62_75 e84 rfl ?_
          exact w_ra e62_78 rfl ⟨hT83, Or.inr ⟨_, (rfl : ty 234 = 1), rfl⟩⟩
    ·
      refine w_ldA e62_24 (fun _ => rfl) rfl ?_
      refine w_ldI e62_25 (fun _ => rfl) rfl ?_
      obtain ⟨m86, m87, m88, m89, hm90, hm91, hm92, hm93, hm94, hm95, e85⟩ := tc_main hT
      refine w_cv e62_26 (by decide) rfl e85 rfl (Nat.le_of_ble_eq_true rfl) (Nat.le_of_ble_eq_true rfl) (Nat.le_of_ble_eq_true rfl) (by decide) (by decide) (c60 hz hT hi_2) (fun o96 v97 hq98 => ?_)
      obtain ⟨rfl, q100, h101, rfl⟩ := hq98
      refine w_if e62_29 (by omega) (fun (h102 : q100 = 0) => ?_) (fun (h102 : q100 ≠ 0) => ?_)
      ·
        refine w_ldI e62_45 (fun _ => rfl) rfl ?_
        refine w_kI e62_46 ?_
        refine w_ic e62_47 hi_1 (by omega) (fun (h103 : i1 ≠ 2) => ?_) (fun (h103 : i1 = 2) => ?_)
        ·
          refine w_ldI e62_79 (fun _ => rfl) rfl ?_
          refine w_kI e62_80 ?_
          refine w_ic e62_81 hi_1 (by omega) (fun (h104 : i1 ≠ 3) => ?_) (fun (h104 : i1 = 3) => ?_)
          ·
            refine w_ldI e62_93 (fun _ => rfl) rfl ?_
            refine w_kI e62_94 ?_
            refine w_ic e62_95 hi_1 (by omega) (fun (h105 : i1 ≠ 4) => ?_) (fun (h105 : i1 = 4) => ?_)
            ·
              refine w_x e62_107 (fun _ => rfl) ?_
              exact w_rn e62_108 rfl ⟨hT, Or.inl rfl⟩
            ·
              refine w_ldI e62_98 (fun _ => rfl) rfl ?_
              refine w_if e62_99 hi_2 (fun (h106 : i2 ≠ 0) => ?_) (fun (h106 : i2 = 0) => ?_)
              ·
                refine w_x e62_107 (fun _ => rfl) ?_
                exact w_rn e62_108 rfl ⟨hT, Or.inl rfl⟩
              ·
                refine w_ldA e62_102 (fun _ => rfl) rfl ?_
                refine w_get e62_103 e85 rfl ?_
                exact w_ra e62_106 rfl ⟨hT, Or.inr ⟨_, (rfl : ty 224 = 1), rfl⟩⟩
          ·
            refine w_ldI e62_84 (fun _ => rfl) rfl ?_
            refine w_if e62_85 hi_2 (fun (h107 : i2 ≠ 0) => ?_) (fun (h107 : i2 = 0) => ?_)
            ·
              refine w_ldI e62_93 (fun _ => rfl) rfl ?_
              refine w_kI e62_94 ?_
              refine w_ic e62_95 hi_1 (by omega) (fun (h108 : i1 ≠ 4) => ?_) (fun (h108 : i1 = 4) => ?_)
              ·
                refine w_x e62_107 (fun _ => rfl) ?_
                exact w_rn e62_108 rfl ⟨hT, Or.inl rfl⟩
              ·
                refine w_ldI e62_98 (fun _ => rfl) rfl ?_
                refine w_if e62_99 hi_2 (fun (h109 : i2 ≠ 0) => ?_) (fun (h109 : i2 = 0) => ?_)
                ·
                  refine w_x e62_107 (fun _ => rfl) ?_
                  exact w_rn e62_108 rfl ⟨hT, Or.inl rfl⟩
                ·
                  refine w_ldA e62_102 (fun _ => rfl) rfl ?_
                  refine w_get e62_103 e85 rfl ?_
                  exact w_ra e62_106 rfl ⟨hT, Or.inr ⟨_, (rfl : ty 224 = 1), rfl⟩⟩
            ·
              refine w_ldA e62_88 (fun _ => rfl) rfl ?_
              refine w_get e62_89 e85 rfl ?_
              exact w_ra e62_92 rfl ⟨hT, Or.inr ⟨_, (rfl : ty 227 = 1), rfl⟩⟩
        ·
          refine w_ldA e62_50 (fun _ => rfl) rfl ?_
          refine w_ldI e62_51 (fun _ => rfl) rfl ?_
          refine w_cv e62_52 (by decide) rfl e85 rfl (Nat.le_of_ble_eq_true rfl) (Nat.le_of_ble_eq_true rfl) (Nat.le_of_ble_eq_true rfl) (by decide) (by decide) (c60 hz hT hi_2) (fun o110 v111 hq112 => ?_)
          obtain ⟨rfl, q114, h115, rfl⟩ := hq112
          refine w_if e62_55 (by omega) (fun (h116 : q114 = 0) => ?_) (fun (h116 : q114 ≠ 0) => ?_)
          ·
            refine w_ldI e62_79 (fun _ => rfl) rfl ?_
            refine w_kI e62_80 ?_
            refine w_ic e62_81 hi_1 (by omega) (fun (h117 : i1 ≠ 3) => ?_) (fun (h117 : i1 = 3) => ?_)
            ·
              refine w_ldI e62_93 (fun _ => rfl) rfl ?_
              refine w_kI e62_94 ?_
              refine w_ic e62_95 hi_1 (by omega) (fun (h118 : i1 ≠ 4) => ?_) (fun (h118 : i1 = 4) => ?_)
              ·
                refine w_x e62_107 (fun _ => rfl) ?_
                exact w_rn e62_108 rfl ⟨hT, Or.inl rfl⟩
              ·
                refine w_ldI e62_98 (fun _ => rfl) rfl ?_
                refine w_if e62_99 hi_2 (fun (h119 : i2 ≠ 0) => ?_) (fun (h119 : i2 = 0) => ?_)
                ·
                  refine w_x e62_107 (fun _ => rfl) ?_
                  exact w_rn e62_108 rfl ⟨hT, Or.inl rfl⟩
                ·
                  refine w_ldA e62_102 (fun _ => rfl) rfl ?_
                  refine w_get e62_103 e85 rfl ?_
                  exact w_ra e62_106 rfl ⟨hT, Or.inr ⟨_, (rfl : ty 224 = 1), rfl⟩⟩
            ·
              refine w_ldI e62_84 (fun _ => rfl) rfl ?_
              refine w_if e62_85 hi_2 (fun (h120 : i2 ≠ 0) => ?_) (fun (h120 : i2 = 0) => ?_)
              ·
                refine w_ldI e62_93 (fun _ => rfl) rfl ?_
                refine w_kI e62_94 ?_
                refine w_ic e62_95 hi_1 (by omega) (fun (h121 : i1 ≠ 4) => ?_) (fun (h121 : i1 = 4) => ?_)
                ·
                  refine w_x e62_107 (fun _ => rfl) ?_
                  exact w_rn e62_108 rfl ⟨hT, Or.inl rfl⟩
                ·
                  refine w_ldI e62_98 (fun _ => rfl) rfl ?_
                  refine w_if e62_99 hi_2 (fun (h122 : i2 ≠ 0) => ?_) (fun (h122 : i2 = 0) => ?_)
                  ·
                    refine w_x e62_107 (fun _ => rfl) ?_
                    exact w_rn e62_108 rfl ⟨hT, Or.inl rfl⟩
                  ·
                    refine w_ldA e62_102 (fun _ => rfl) rfl ?_
                    refine w_get e62_103 e85 rfl ?_
                    exact w_ra e62_106 rfl ⟨hT, Or.inr ⟨_, (rfl : ty 224 = 1), rfl⟩⟩
              ·
                refine w_ldA e62_88 (fun _ => rfl) rfl ?_
                refine w_get e62_89 e85 rfl ?_
                exact w_ra e62_92 rfl ⟨hT, Or.inr ⟨_, (rfl : ty 227 = 1), rfl⟩⟩
          ·
            refine w_ldA e62_58 (fun _ => rfl) rfl ?_
            refine w_get e62_59 e85 rfl ?_
            refine w_ldA e62_62 (fun _ => rfl) rfl ?_
            refine w_get e62_63 e85 rfl ?_
            obtain ⟨s124, hs125, e123⟩ := tc_tri hT
            refine w_get e62_66 e123 rfl ?_
            refine w_ldI e62_69 (fun _ => rfl) rfl ?_
            obtain ⟨f127, hf128, e126⟩ := tc_mem hT
            obtain ⟨a129, h130, h131⟩ := hf128 (i2).toNat (by omega)
            refine w_qld e62_70 e126 (by decide) (by omega) (by omega) (by decide) h130 ?_
            obtain ⟨c133, hc134, e132⟩ := tc_poly hT (rfl : ty 234 = 1)
            refine w_cv e62_71 (by decide) rfl e132 rfl (Nat.le_of_ble_eq_true rfl) (Nat.le_of_ble_eq_true rfl) (Nat.le_of_ble_eq_true rfl) (by decide) (by decide) (c20 (tc_fz hT) (rfl : ty 234 = 1) (Or.inr (by decide)) h131) (fun o135 v136 hq137 => ?_)
            obtain ⟨hT138, rfl⟩ := hq137
            have hT139 := tc_uf hT hT138
            have e140 := (tc_k1 hT138).trans e85
            refine w_ldA e62_74 (fun _ => rfl) rfl ?_
            refine w_get e62_75 e140 rfl ?_
            exact w_ra e62_78 rfl ⟨hT139, Or.inr ⟨_, (rfl : ty 234 = 1), rfl⟩⟩
      ·
        refine w_ldA e62_32 (fun _ => rfl) rfl ?_
        refine w_get e62_33 e85 rfl ?_
        obtain ⟨s142, hs143, e141⟩ := tc_tri hT
        refine w_get e62_36 e141 rfl ?_
        refine w_ldI e62_39 (fun _ => rfl) rfl ?_
        obtain ⟨f145, hf146, e144⟩ := tc_mem hT
        obtain ⟨a147, h148, h149⟩ := hf146 (i2).toNat (by omega)
        refine w_qld e62_40 e144 (by decide) (by omega) (by omega) (by decide) h148 ?_
        obtain ⟨p151, d152, hp153, hd154, e150⟩ := tc_row hT h149
        refine w_get e62_41 e150 rfl ?_
        exact w_ra e62_44 rfl ⟨hT, Or.inr ⟨_, (ty_r h149), rfl⟩⟩
  ·
    refine w_ldA e62_4 (fun _ => rfl) rfl ?_
    refine w_ldI e62_5 (fun _ => rfl) rfl ?_
    obtain ⟨m156, m157, m158, m159, hm160, hm161, hm162, hm163, hm164, hm165, e155⟩ := tc_main hT
    refine w_cv e62_6 (by decide) rfl e155 rfl (Nat.le_of_ble_eq_true rfl) (Nat.le_of_ble_eq_true rfl) (Nat.le_of_ble_eq_true rfl) (by decide) (by decide) (c59 hz hT hi_2) (fun o166 v167 hq168 => ?_)
    obtain ⟨rfl, q170, h171, rfl⟩ := hq168
    refine w_if e62_9 (by omega) (fun (h172 : q170 = 0) => ?_) (fun (h172 : q170 ≠ 0) => ?_)
    ·
      refine w_ldI e62_19 (fun _ => rfl) rfl ?_
      refine w_kI e62_20 ?_
      refine w_ic e62_21 hi_1 (by omega) (fun (h173 : i1 ≠ 1) => ?_) (fun (h173 : i1 = 1) => ?_)
      ·
        refine w_ldI e62_45 (fun _ => rfl) rfl ?_
        refine w_kI e62_46 ?_
        refine w_ic e62_47 hi_1 (by omega) (fun (h174 : i1 ≠ 2) => ?_) (fun (h174 : i1 = 2) => ?_)
        ·
          refine w_ldI e62_79 (fun _ => rfl) rfl ?_
          refine w_kI e62_80 ?_
          refine w_ic e62_81 hi_1 (by omega) (fun (h175 : i1 ≠ 3) => ?_) (fun (h175 : i1 = 3) => ?_)
          ·
            refine w_ldI e62_93 (fun _ => rfl) rfl ?_
            refine w_kI e62_94 ?_
            refine w_ic e62_95 hi_1 (by omega) (fun (h176 : i1 ≠ 4) => ?_) (fun (h176 : i1 = 4) => ?_)
            ·
              refine w_x e62_107 (fun _ => rfl) ?_
              exact w_rn e62_108 rfl ⟨hT, Or.inl rfl⟩
            ·
              refine w_ldI e62_98 (fun _ => rfl) rfl ?_
              refine w_if e62_99 hi_2 (fun (h177 : i2 ≠ 0) => ?_) (fun (h177 : i2 = 0) => ?_)
              ·
                refine w_x e62_107 (fun _ => rfl) ?_
                exact w_rn e62_108 rfl ⟨hT, Or.inl rfl⟩
              ·
                refine w_ldA e62_102 (fun _ => rfl) rfl ?_
                refine w_get e62_103 e155 rfl ?_
                exact w_ra e62_106 rfl ⟨hT, Or.inr ⟨_, (rfl : ty 224 = 1), rfl⟩⟩
          ·
            refine w_ldI e62_84 (fun _ => rfl) rfl ?_
            refine w_if e62_85 hi_2 (fun (h178 : i2 ≠ 0) => ?_) (fun (h178 : i2 = 0) => ?_)
            ·
              refine w_ldI e62_93 (fun _ => rfl) rfl ?_
              refine w_kI e62_94 ?_
              refine w_ic e62_95 hi_1 (by omega) (fun (h179 : i1 ≠ 4) => ?_) (fun (h179 : i1 = 4) => ?_)
              ·
                refine w_x e62_107 (fun _ => rfl) ?_
                exact w_rn e62_108 rfl ⟨hT, Or.inl rfl⟩
              ·
                refine w_ldI e62_98 (fun _ => rfl) rfl ?_
                refine w_if e62_99 hi_2 (fun (h180 : i2 ≠ 0) => ?_) (fun (h180 : i2 = 0) => ?_)
                ·
                  refine w_x e62_107 (fun _ => rfl) ?_
                  exact w_rn e62_108 rfl ⟨hT, Or.inl rfl⟩
                ·
                  refine w_ldA e62_102 (fun _ => rfl) rfl ?_
                  refine w_get e62_103 e155 rfl ?_
                  exact w_ra e62_106 rfl ⟨hT, Or.inr ⟨_, (rfl : ty 224 = 1), rfl⟩⟩
            ·
              refine w_ldA e62_88 (fun _ => rfl) rfl ?_
              refine w_get e62_89 e155 rfl ?_
              exact w_ra e62_92 rfl ⟨hT, Or.inr ⟨_, (rfl : ty 227 = 1), rfl⟩⟩
        ·
          refine w_ldA e62_50 (fun _ => rfl) rfl ?_
          refine w_ldI e62_51 (fun _ => rfl) rfl ?_
          refine w_cv e62_52 (by decide) rfl e155 rfl (Nat.le_of_ble_eq_true rfl) (Nat.le_of_ble_eq_true rfl) (Nat.le_of_ble_eq_true rfl) (by decide) (by decide) (c60 hz hT hi_2) (fun o181 v182 hq183 => ?_)
          obtain ⟨rfl, q185, h186, rfl⟩ := hq183
          refine w_if e62_55 (by omega) (fun (h187 : q185 = 0) => ?_) (fun (h187 : q185 ≠ 0) => ?_)
          ·
            refine w_ldI e62_79 (fun _ => rfl) rfl ?_
            refine w_kI e62_80 ?_
            refine w_ic e62_81 hi_1 (by omega) (fun (h188 : i1 ≠ 3) => ?_) (fun (h188 : i1 = 3) => ?_)
            ·
              refine w_ldI e62_93 (fun _ => rfl) rfl ?_
              refine w_kI e62_94 ?_
              refine w_ic e62_95 hi_1 (by omega) (fun (h189 : i1 ≠ 4) => ?_) (fun (h189 : i1 = 4) => ?_)
              ·
                refine w_x e62_107 (fun _ => rfl) ?_
                exact w_rn e62_108 rfl ⟨hT, Or.inl rfl⟩
              ·
                refine w_ldI e62_98 (fun _ => rfl) rfl ?_
                refine w_if e62_99 hi_2 (fun (h190 : i2 ≠ 0) => ?_) (fun (h190 : i2 = 0) => ?_)
                ·
                  refine w_x e62_107 (fun _ => rfl) ?_
                  exact w_rn e62_108 rfl ⟨hT, Or.inl rfl⟩
                ·
                  refine w_ldA e62_102 (fun _ => rfl) rfl ?_
                  refine w_get e62_103 e155 rfl ?_
                  exact w_ra e62_106 rfl ⟨hT, Or.inr ⟨_, (rfl : ty 224 = 1), rfl⟩⟩
            ·
              refine w_ldI e62_84 (fun _ => rfl) rfl ?_
              refine w_if e62_85 hi_2 (fun (h191 : i2 ≠ 0) => ?_) (fun (h191 : i2 = 0) => ?_)
              ·
                refine w_ldI e62_93 (fun _ => rfl) rfl ?_
                refine w_kI e62_94 ?_
                refine w_ic e62_95 hi_1 (by omega) (fun (h192 : i1 ≠ 4) => ?_) (fun (h192 : i1 = 4) => ?_)
                ·
                  refine w_x e62_107 (fun _ => rfl) ?_
                  exact w_rn e62_108 rfl ⟨hT, Or.inl rfl⟩
                ·
                  refine w_ldI e62_98 (fun _ => rfl) rfl ?_
                  refine w_if e62_99 hi_2 (fun (h193 : i2 ≠ 0) => ?_) (fun (h193 : i2 = 0) => ?_)
                  ·
                    refine w_x e62_107 (fun _ => rfl) ?_
                    exact w_rn e62_108 rfl ⟨hT, Or.inl rfl⟩
                  ·
                    refine w_ldA e62_102 (fun _ => rfl) rfl ?_
                    refine w_get e62_103 e155 rfl ?_
                    exact w_ra e62_106 rfl ⟨hT, Or.inr ⟨_, (rfl : ty 224 = 1), rfl⟩⟩
              ·
                refine w_ldA e62_88 (fun _ => rfl) rfl ?_
                refine w_get e62_89 e155 rfl ?_
                exact w_ra e62_92 rfl ⟨hT, Or.inr ⟨_, (rfl : ty 227 = 1), rfl⟩⟩
          ·
            refine w_ldA e62_58 (fun _ => rfl) rfl ?_
            refine w_get e62_59 e155 rfl ?_
            refine w_ldA e62_62 (fun _ => rfl) rfl ?_
            refine w_get e62_63 e155 rfl ?_
            obtain ⟨s195, hs196, e194⟩ := tc_tri hT
            refine w_get e62_66 e194 rfl ?_
            refine w_ldI e62_69 (fun _ => rfl) rfl ?_
            obtain ⟨f198, hf199, e197⟩ := tc_mem hT
            obtain ⟨a200, h201, h202⟩ := hf199 (i2).toNat (by omega)
            refine w_qld e62_70 e197 (by decide) (by omega) (by omega) (by decide) h201 ?_
            obtain ⟨c204, hc205, e203⟩ := tc_poly hT (rfl : ty 234 = 1)
            refine w_cv e62_71 (by decide) rfl e203 rfl (Nat.le_of_ble_eq_true rfl) (Nat.le_of_ble_eq_true rfl) (Nat.le_of_ble_eq_true rfl) (by decide) (by decide) (c20 (tc_fz hT) (rfl : ty 234 = 1) (Or.inr (by decide)) h202) (fun o206 v207 hq208 => ?_)
            obtain ⟨hT209, rfl⟩ := hq208
            have hT210 := tc_uf hT hT209
            have e211 := (tc_k1 hT209).trans e155
            refine w_ldA e62_74 (fun _ => rfl) rfl ?_
            refine w_get e62_75 e211 rfl ?_
            exact w_ra e62_78 rfl ⟨hT210, Or.inr ⟨_, (rfl : ty 234 = 1), rfl⟩⟩
      ·
        refine w_ldA e62_24 (fun _ => rfl) rfl ?_
        refine w_ldI e62_25 (fun _ => rfl) rfl ?_
        refine w_cv e62_26 (by decide) rfl e155 rfl (Nat.le_of_ble_eq_true rfl) (Nat.le_of_ble_eq_true rfl) (Nat.le_of_ble_eq_true rfl) (by decide) (by decide) (c60 hz hT hi_2) (fun o212 v213 hq214 => ?_)
        obtain ⟨rfl, q216, h217, rfl⟩ := hq214
        refine w_if e62_29 (by omega) (fun (h218 : q216 = 0) => ?_) (fun (h218 : q216 ≠ 0) => ?_)
        ·
          refine w_ldI e62_45 (fun _ => rfl) rfl ?_
          refine w_kI e62_46 ?_
          refine w_ic e62_47 hi_1 (by omega) (fun (h219 : i1 ≠ 2) => ?_) (fun (h219 : i1 = 2) => ?_)
          ·
            refine w_ldI e62_79 (fun _ => rfl) rfl ?_
            refine w_kI e62_80 ?_
            refine w_ic e62_81 hi_1 (by omega) (fun (h220 : i1 ≠ 3) => ?_) (fun (h220 : i1 = 3) => ?_)
            ·
              refine w_ldI e62_93 (fun _ => rfl) rfl ?_
              refine w_kI e62_94 ?_
              refine w_ic e62_95 hi_1 (by omega) (fun (h221 : i1 ≠ 4) => ?_) (fun (h221 : i1 = 4) => ?_)
              ·
                refine w_x e62_107 (fun _ => rfl) ?_
                exact w_rn e62_108 rfl ⟨hT, Or.inl rfl⟩
              ·
                refine w_ldI e62_98 (fun _ => rfl) rfl ?_
                refine w_if e62_99 hi_2 (fun (h222 : i2 ≠ 0) => ?_) (fun (h222 : i2 = 0) => ?_)
                ·
                  refine w_x e62_107 (fun _ => rfl) ?_
                  exact w_rn e62_108 rfl ⟨hT, Or.inl rfl⟩
                ·
                  refine w_ldA e62_102 (fun _ => rfl) rfl ?_
                  refine w_get e62_103 e155 rfl ?_
                  exact w_ra e62_106 rfl ⟨hT, Or.inr ⟨_, (rfl : ty 224 = 1), rfl⟩⟩
            ·
              refine w_ldI e62_84 (fun _ => rfl) rfl ?_
              refine w_if e62_85 hi_2 (fun (h223 : i2 ≠ 0) => ?_) (fun (h223 : i2 = 0) => ?_)
              ·
                refine w_ldI e62_93 (fun _ => rfl) rfl ?_
                refine w_kI e62_94 ?_
                refine w_ic e62_95 hi_1 (by omega) (fun (h224 : i1 ≠ 4) => ?_) (fun (h224 : i1 = 4) => ?_)
                ·
                  refine w_x e62_107 (fun _ => rfl) ?_
                  exact w_rn e62_108 rfl ⟨hT, Or.inl rfl⟩
                ·
                  refine w_ldI e62_98 (fun _ => rfl) rfl ?_
                  refine w_if e62_99 hi_2 (fun (h225 : i2 ≠ 0) => ?_) (fun (h225 : i2 = 0) => ?_)
                  ·
                    refine w_x e62_107 (fun _ => rfl) ?_
                    exact w_rn e62_108 rfl ⟨hT, Or.inl rfl⟩
                  ·
                    refine w_ldA e62_102 (fun _ => rfl) rfl ?_
                    refine w_get e62_103 e155 rfl ?_
                    exact w_ra e62_106 rfl ⟨hT, Or.inr ⟨_, (rfl : ty 224 = 1), rfl⟩⟩
              ·
                refine w_ldA e62_88 (fun _ => rfl) rfl ?_
                refine w_get e62_89 e155 rfl ?_
                exact w_ra e62_92 rfl ⟨hT, Or.inr ⟨_, (rfl : ty 227 = 1), rfl⟩⟩
          ·
            refine w_ldA e62_50 (fun _ => rfl) rfl ?_
            refine w_ldI e62_51 (fun _ => rfl) rfl ?_
            refine w_cv e62_52 (by decide) rfl e155 rfl (Nat.le_of_ble_eq_true rfl) (Nat.le_of_ble_eq_true rfl) (Nat.le_of_ble_eq_true rfl) (by decide) (by decide) (c60 hz hT hi_2) (fun o226 v227 hq228 => ?_)
            obtain ⟨rfl, q230, h231, rfl⟩ := hq228
            refine w_if e62_55 (by omega) (fun (h232 : q230 = 0) => ?_) (fun (h232 : q230 ≠ 0) => ?_)
            ·
              refine w_ldI e62_79 (fun _ => rfl) rfl ?_
              refine w_kI e62_80 ?_
              refine w_ic e62_81 hi_1 (by omega) (fun (h233 : i1 ≠ 3) => ?_) (fun (h233 : i1 = 3) => ?_)
              ·
                refine w_ldI e62_93 (fun _ => rfl) rfl ?_
                refine w_kI e62_94 ?_
                refine w_ic e62_95 hi_1 (by omega) (fun (h234 : i1 ≠ 4) => ?_) (fun (h234 : i1 = 4) => ?_)
                ·
                  refine w_x e62_107 (fun _ => rfl) ?_
                  exact w_rn e62_108 rfl ⟨hT, Or.inl rfl⟩
                ·
                  refine w_ldI e62_98 (fun _ => rfl) rfl ?_
                  refine w_if e62_99 hi_2 (fun (h235 : i2 ≠ 0) => ?_) (fun (h235 : i2 = 0) => ?_)
                  ·
                    refine w_x e62_107 (fun _ => rfl) ?_
                    exact w_rn e62_108 rfl ⟨hT, Or.inl rfl⟩
                  ·
                    refine w_ldA e62_102 (fun _ => rfl) rfl ?_
                    refine w_get e62_103 e155 rfl ?_
                    exact w_ra e62_106 rfl ⟨hT, Or.inr ⟨_, (rfl : ty 224 = 1), rfl⟩⟩
              ·
                refine w_ldI e62_84 (fun _ => rfl) rfl ?_
                refine w_if e62_85 hi_2 (fun (h236 : i2 ≠ 0) => ?_) (fun (h236 : i2 = 0) => ?_)
                ·
                  refine w_ldI e62_93 (fun _ => rfl) rfl ?_
                  refine w_kI e62_94 ?_
                  refine w_ic e62_95 hi_1 (by omega) (fun (h237 : i1 ≠ 4) => ?_) (fun (h237 : i1 = 4) => ?_)
                  ·
                    refine w_x e62_107 (fun _ => rfl) ?_
                    exact w_rn e62_108 rfl ⟨hT, Or.inl rfl⟩
                  ·
                    refine w_ldI e62_98 (fun _ => rfl) rfl ?_
                    refine w_if e62_99 hi_2 (fun (h238 : i2 ≠ 0) => ?_) (fun (h238 : i2 = 0) => ?_)
                    ·
                      refine w_x e62_107 (fun _ => rfl) ?_
                      exact w_rn e62_108 rfl ⟨hT, Or.inl rfl⟩
                    ·
                      refine w_ldA e62_102 (fun _ => rfl) rfl ?_
                      refine w_get e62_103 e155 rfl ?_
                      exact w_ra e62_106 rfl ⟨hT, Or.inr ⟨_, (rfl : ty 224 = 1), rfl⟩⟩
                ·
                  refine w_ldA e62_88 (fun _ => rfl) rfl ?_
                  refine w_get e62_89 e155 rfl ?_
                  exact w_ra e62_92 rfl ⟨hT, Or.inr ⟨_, (rfl : ty 227 = 1), rfl⟩⟩
            ·
              refine w_ldA e62_58 (fun _ => rfl) rfl ?_
              refine w_get e62_59 e155 rfl ?_
              refine w_ldA e62_62 (fun _ => rfl) rfl ?_
              refine w_get e62_63 e155 rfl ?_
              obtain ⟨s240, hs241, e239⟩ := tc_tri hT
              refine w_get e62_66 e239 rfl ?_
              refine w_ldI e62_69 (fun _ => rfl) rfl ?_
              obtain ⟨f243, hf244, e242⟩ := tc_mem hT
              obtain ⟨a245, h246, h247⟩ := hf244 (i2).toNat (by omega)
              refine w_qld e62_70 e242 (by decide) (by omega) (by omega) (by decide) h246 ?_
              obtain ⟨c249, hc250, e248⟩ := tc_poly hT (rfl : ty 234 = 1)
              refine w_cv e62_71 (by decide) rfl e248 rfl (Nat.le_of_ble_eq_true rfl) (Nat.le_of_ble_eq_true rfl) (Nat.le_of_ble_eq_true rfl) (by decide) (by decide) (c20 (tc_fz hT) (rfl : ty 234 = 1) (Or.inr (by decide)) h247) (fun o251 v252 hq253 => ?_)
              obtain ⟨hT254, rfl⟩ := hq253
              have hT255 := tc_uf hT hT254
              have e256 := (tc_k1 hT254).trans e155
              refine w_ldA e62_74 (fun _ => rfl) rfl ?_
              refine w_get e62_75 e256 rfl ?_
              exact w_ra e62_78 rfl ⟨hT255, Or.inr ⟨_, (rfl : ty 234 = 1), rfl⟩⟩
        ·
          refine w_ldA e62_32 (fun _ => rfl) rfl ?_
          refine w_get e62_33 e155 rfl ?_
          obtain ⟨s258, hs259, e257⟩ := tc_tri hT
          refine w_get e62_36 e257 rfl ?_
          refine w_ldI e62_39 (fun _ => rfl) rfl ?_
          obtain ⟨f261, hf262, e260⟩ := tc_mem hT
          obtain ⟨a263, h264, h265⟩ := hf262 (i2).toNat (by omega)
          refine w_qld e62_40 e260 (by decide) (by omega) (by omega) (by decide) h264 ?_
          obtain ⟨p267, d268, hp269, hd270, e266⟩ := tc_row hT h265
          refine w_get e62_41 e266 rfl ?_
          exact w_ra e62_44 rfl ⟨hT, Or.inr ⟨_, (ty_r h265), rfl⟩⟩
    ·
      refine w_ldA e62_12 (fun _ => rfl) rfl ?_
      refine w_get e62_13 e155 rfl ?_
      refine w_ldI e62_16 (fun _ => rfl) rfl ?_
      obtain ⟨f272, hf273, e271⟩ := tc_polys hT
      obtain ⟨a274, h275, h276⟩ : ∃ b, f272 (i2).toNat = some b ∧ ty b = 1 := ⟨_, hf273 _ (by omega), ty_pi _ (by omega)⟩
      refine w_qld e62_17 e271 (by decide) (by omega) (by omega) (by decide) h275 ?_
      exact w_ra e62_18 rfl ⟨hT, Or.inr ⟨_, h276, rfl⟩⟩
set_option maxRecDepth 100000 in
set_option maxHeartbeats 4000000 in
theorem c45 {θ : tc_S} {v0 : (Bool × Bool) × vm_H} {vh : vm_H} (hz : v0.1.1 = false) (hT : tc θ v0 vh) (hu : v0.1.2 = false) {i1 : Int} (hi_1 : -2147483648 ≤ i1 ∧ i1 < 2147483648) {i2 : Int} (hi_2 : -2147483648 ≤ i2 ∧ i2 < 2147483648) : vm_Rp 4 91 45 [.ref 1, .int (vz i1), .int (vz i2)] vh (fun r v1 => (tc θ v0 v1) ∧ ∃ q : Int, ((0 ≤ q ∧ q ≤ 1) ∧ ((q = 0 ∧ (i1 < 0 ∨ θ.1 ≤ i1 ∨ i2 < 0 ∨ θ.1 ≤ i2)) ∨ (q = 1 ∧ 0 ≤ i1 ∧ i1 < θ.1 ∧ 0 ≤ i2 ∧ i2 < θ.1))) ∧ r = some (.int (vz q))) := by
  have hok : (0 ≤ θ.1 ∧ θ.1 ≤ 8) ∧ (0 ≤ θ.2.1 ∧ θ.2.1 ≤ 16) ∧ (-2147483648 ≤ θ.2.2.2.1 ∧ θ.2.2.2.1 < 2147483648) ∧ (0 ≤ θ.2.2.2.2 ∧ θ.2.2.2.2 ≤ 8) := hT.1
  refine w_in (m := 1) ?_
  show vm_Wp _ _ _ 0 [some (.ref 1), some (.int (vz i1)), some (.int (vz i2)), none] [] _ _
  refine w_ldA e45_0 (fun _ => rfl) rfl ?_
  obtain ⟨m2, m3, m4, m5, hm6, hm7, hm8, hm9, hm10, hm11, e1⟩ := tc_main hT
  refine w_get e45_1 e1 rfl ?_
  refine w_ldI e45_4 (fun _ => rfl) rfl ?_
  obtain ⟨hn13, e12⟩ := tc_places hT
  refine w_cv e45_5 (by decide) rfl e12 rfl (Nat.le_of_ble_eq_true rfl) (Nat.le_of_ble_eq_true rfl) (Nat.le_of_ble_eq_true rfl) (by decide) (by decide) (c2 hT hi_1) (fun o14 v15 hq16 => ?_)
  obtain ⟨rfl, q18, h19, rfl⟩ := hq16
  refine w_if e45_8 (by omega) (fun (h20 : q18 = 0) => ?_) (fun (h20 : q18 ≠ 0) => ?_)
  ·
    refine w_kI e45_22 ?_
    exact w_rz e45_23 rfl (by omega) ⟨hT, 0, (by omega), rfl⟩
  ·
    refine w_ldA e45_11 (fun _ => rfl) rfl ?_
    refine w_get e45_12 e1 rfl ?_
    refine w_ldI e45_15 (fun _ => rfl) rfl ?_
    refine w_cv e45_16 (by decide) rfl e12 rfl (Nat.le_of_ble_eq_true rfl) (Nat.le_of_ble_eq_true rfl) (Nat.le_of_ble_eq_true rfl) (by decide) (by decide) (c2 hT hi_2) (fun o21 v22 hq23 => ?_)
    obtain ⟨rfl, q25, h26, rfl⟩ := hq23
    refine w_if e45_19 (by omega) (fun (h27 : q25 ≠ 0) => ?_) (fun (h27 : q25 = 0) => ?_)
    ·
      refine w_ldA e45_24 (fun _ => rfl) rfl ?_
      refine w_get e45_25 e1 rfl ?_
      refine w_ldI e45_28 (fun _ => rfl) rfl ?_
      refine w_cv e45_29 (by decide) rfl e12 rfl (Nat.le_of_ble_eq_true rfl) (Nat.le_of_ble_eq_true rfl) (Nat.le_of_ble_eq_true rfl) (by decide) (by decide) (c5 hT hi_2) (fun o28 v29 hq30 => ?_)
      obtain ⟨rfl, q32, h33, rfl⟩ := hq30
      refine w_stI (j := 3) (A1 := [some (.ref 1), some (.int (vz i1)), some (.int (vz i2)), some (.int (vz q32))]) e45_32 (fun _ => rfl) (by decide) rfl ?_
      refine w_ldI e45_33 (fun _ => rfl) rfl ?_
      refine w_kI e45_34 ?_
      refine w_ic e45_35 (by omega) (by omega) (fun (h34 : q32 = -1) => ?_) (fun (h34 : q32 ≠ -1) => ?_)
      ·
        refine w_kI e45_53 ?_
        exact w_rz e45_54 rfl (by omega) ⟨hT, 1, (by omega), rfl⟩
      ·
        refine w_ldI e45_38 (fun _ => rfl) rfl ?_
        refine w_ldI e45_39 (fun _ => rfl) rfl ?_
        refine w_ic e45_40 (by omega) hi_1 (fun (h35 : q32 = i1) => ?_) (fun (h35 : q32 ≠ i1) => ?_)
        ·
          refine w_kI e45_53 ?_
          exact w_rz e45_54 rfl (by omega) ⟨hT, 1, (by omega), rfl⟩
        ·
          refine w_ldA e45_43 (fun _ => rfl) rfl ?_
          refine w_ldI e45_44 (fun _ => rfl) rfl ?_
          refine w_ldI e45_45 (fun _ => rfl) rfl ?_
          refine w_cv e45_46 (by decide) rfl e1 rfl (Nat.le_of_ble_eq_true rfl) (Nat.le_of_ble_eq_true rfl) (Nat.le_of_ble_eq_true rfl) (by decide) (by decide) (c64 hz hT hu (by omega) (by omega)) (fun o36 v37 hq38 => ?_)
          obtain ⟨hT39, rfl⟩ := hq38
          refine w_ldA e45_49 (fun _ => rfl) rfl ?_
          obtain ⟨m41, m42, m43, m44, hm45, hm46, hm47, hm48, hm49, hm50, e40⟩ := tc_main hT39
          refine w_cv e45_50 (by decide) rfl e40 rfl (Nat.le_of_ble_eq_true rfl) (Nat.le_of_ble_eq_true rfl) (Nat.le_of_ble_eq_true rfl) (by decide) (by decide) (c63 hz hT39) (fun o51 v52 hq53 => ?_)
          obtain ⟨hT54, rfl⟩ := hq53
          refine w_kI e45_53 ?_
          exact w_rz e45_54 rfl (by omega) ⟨hT54, 1, (by omega), rfl⟩
    ·
      refine w_kI e45_22 ?_
      exact w_rz e45_23 rfl (by omega) ⟨hT, 0, (by omega), rfl⟩
set_option maxRecDepth 100000 in
set_option maxHeartbeats 4000000 in
theorem c47 {θ : tc_S} {v0 : (Bool × Bool) × vm_H} {vh : vm_H} (hz : v0.1.1 = false) (hT : tc θ v0 vh) (hu : v0.1.2 = false) {i1 : Int} (hi_1 : -2147483648 ≤ i1 ∧ i1 < 2147483648) {l_2 : Int64} {i3 : Int} (hi_3 : -2147483648 ≤ i3 ∧ i3 < 2147483648) : vm_Rp 3 79 47 [.ref 1, .int (vz i1), .long l_2, .int (vz i3)] vh (fun r v1 => (tc θ v0 v1) ∧ ∃ q : Int, ((0 ≤ q ∧ q ≤ 1)) ∧ r = some (.int (vz q))) := by
  have hok : (0 ≤ θ.1 ∧ θ.1 ≤ 8) ∧ (0 ≤ θ.2.1 ∧ θ.2.1 ≤ 16) ∧ (-2147483648 ≤ θ.2.2.2.1 ∧ θ.2.2.2.1 < 2147483648) ∧ (0 ≤ θ.2.2.2.2 ∧ θ.2.2.2.2 ≤ 8) := hT.1
  refine w_in (m := 0) ?_
  show vm_Wp _ _ _ 0 [some (.ref 1), some (.int (vz i1)), some (.long l_2), none, some (.int (vz i3))] [] _ _
  refine w_ldA e47_0 (fun _ => rfl) rfl ?_
  refine w_ldI e47_1 (fun _ => rfl) rfl ?_
  obtain ⟨m2, m3, m4, m5, hm6, hm7, hm8, hm9, hm10, hm11, e1⟩ := tc_main hT
  refine w_cv e47_2 (by decide) rfl e1 rfl (Nat.le_of_ble_eq_true rfl) (Nat.le_of_ble_eq_true rfl) (Nat.le_of_ble_eq_true rfl) (by decide) (by decide) (c59 hz hT hi_1) (fun o12 v13 hq14 => ?_)
  obtain ⟨rfl, q16, h17, rfl⟩ := hq14
  refine w_if e47_5 (by omega) (fun (h18 : q16 = 0) => ?_) (fun (h18 : q16 ≠ 0) => ?_)
  ·
    refine w_kI e47_20 ?_
    exact w_rz e47_21 rfl (by omega) ⟨hT, 0, (by omega), rfl⟩
  ·
    refine w_ldA e47_8 (fun _ => rfl) rfl ?_
    refine w_get e47_9 e1 rfl ?_
    refine w_ldI e47_12 (fun _ => rfl) rfl ?_
    obtain ⟨hn20, e19⟩ := tc_places hT
    refine w_cv e47_14 (by decide) rfl e19 rfl (Nat.le_of_ble_eq_true rfl) (Nat.le_of_ble_eq_true rfl) (Nat.le_of_ble_eq_true rfl) (by decide) (by decide) (c7 hT hi_3) (fun o21 v22 hq23 => ?_)
    obtain ⟨rfl, q25, h26, rfl⟩ := hq23
    refine w_if e47_17 (by omega) (fun (h27 : q25 ≠ 0) => ?_) (fun (h27 : q25 = 0) => ?_)
    ·
      refine w_ldL e47_22 (fun _ => rfl) rfl ?_
      refine w_oL e47_23 (fun _ => rfl) (fun l28 => ?_)
      refine w_lcmp e47_24 (fun q29 (h30 : -1 ≤ q29 ∧ q29 ≤ 1) h31 h32 => ?_)
      refine w_if e47_25 (by omega) (fun (h33 : q29 ≠ 0) => ?_) (fun (h33 : q29 = 0) => ?_)
      ·
        refine w_ldA e47_30 (fun _ => rfl) rfl ?_
        refine w_get e47_31 e1 rfl ?_
        refine w_ldI e47_34 (fun _ => rfl) rfl ?_
        obtain ⟨f35, hf36, e34⟩ := tc_polys hT
        obtain ⟨a37, h38, h39⟩ : ∃ b, f35 (i1).toNat = some b ∧ ty b = 1 := ⟨_, hf36 _ (by omega), ty_pi _ (by omega)⟩
        refine w_qld e47_35 e34 (by decide) (by omega) (by omega) (by decide) h38 ?_
        refine w_ldA e47_36 (fun _ => rfl) rfl ?_
        refine w_get e47_37 e1 rfl ?_
        refine w_ldI e47_40 (fun _ => rfl) rfl ?_
        refine w_cv e47_42 (by decide) rfl e19 rfl (Nat.le_of_ble_eq_true rfl) (Nat.le_of_ble_eq_true rfl) (Nat.le_of_ble_eq_true rfl) (by decide) (by decide) (c8 hT hi_3) (fun o40 v41 hq42 => ?_)
        obtain ⟨rfl, l44, rfl⟩ := hq42
        refine w_ldL e47_45 (fun _ => rfl) rfl ?_
        obtain ⟨c46, hc47, e45⟩ := tc_poly hT h39
        refine w_cv e47_46 (by decide) rfl e45 rfl (Nat.le_of_ble_eq_true rfl) (Nat.le_of_ble_eq_true rfl) (Nat.le_of_ble_eq_true rfl) (by decide) (by decide) (c23 (tc_fz hT) h39 (Or.inl hu)) (fun o48 v49 hq50 => ?_)
        obtain ⟨hT51, q52, h53, rfl⟩ := hq50
        have hT54 := tc_uf hT hT51
        have e55 := (tc_k1 hT51).trans e1
        refine w_if e47_49 (by omega) (fun (h56 : q52 ≠ 0) => ?_) (fun (h56 : q52 = 0) => ?_)
        ·
          refine w_ldA e47_54 (fun _ => rfl) rfl ?_
          refine w_get e47_55 e55 rfl ?_
          refine w_ldI e47_58 (fun _ => rfl) rfl ?_
          have e57 := tc_hyps hT54
          refine w_zldO e47_59 e57 (by omega) (by omega) (by decide) (fun q58 h59 h60 => ?_)
          refine w_if e47_60 h59 (fun (h61 : q58 = 0) => ?_) (fun (h61 : q58 ≠ 0) => ?_)
          ·
            refine w_kI e47_67 ?_
            exact w_rz e47_68 rfl (by omega) ⟨hT54, 1, (by omega), rfl⟩
          ·
            refine w_ldA e47_63 (fun _ => rfl) rfl ?_
            refine w_cv e47_64 (by decide) rfl e55 rfl (Nat.le_of_ble_eq_true rfl) (Nat.le_of_ble_eq_true rfl) (Nat.le_of_ble_eq_true rfl) (by decide) (by decide) (c63 hz hT54) (fun o62 v63 hq64 => ?_)
            obtain ⟨hT65, rfl⟩ := hq64
            refine w_kI e47_67 ?_
            exact w_rz e47_68 rfl (by omega) ⟨hT65, 1, (by omega), rfl⟩
        ·
          refine w_kI e47_52 ?_
          exact w_rz e47_53 rfl (by omega) ⟨hT54, 0, (by omega), rfl⟩
      ·
        refine w_kI e47_28 ?_
        exact w_rz e47_29 rfl (by omega) ⟨hT, 1, (by omega), rfl⟩
    ·
      refine w_kI e47_20 ?_
      exact w_rz e47_21 rfl (by omega) ⟨hT, 0, (by omega), rfl⟩
set_option maxRecDepth 100000 in
set_option maxHeartbeats 4000000 in
theorem c50 {θ : tc_S} {v0 : (Bool × Bool) × vm_H} {vh : vm_H} (hz : v0.1.1 = false) (hT : tc θ v0 vh) {i1 : Int} (hi_1 : -2147483648 ≤ i1 ∧ i1 < 2147483648) : vm_Rp 4 115 50 [.ref 1, .int (vz i1)] vh (fun r v1 => (tc θ v0 v1) ∧ ∃ q : Int, (-2147483648 ≤ q ∧ q < 2147483648) ∧ r = some (.int (vz q))) := by
  have hok : (0 ≤ θ.1 ∧ θ.1 ≤ 8) ∧ (0 ≤ θ.2.1 ∧ θ.2.1 ≤ 16) ∧ (-2147483648 ≤ θ.2.2.2.1 ∧ θ.2.2.2.1 < 2147483648) ∧ (0 ≤ θ.2.2.2.2 ∧ θ.2.2.2.2 ≤ 8) := hT.1
  refine w_in (m := 1) ?_
  show vm_Wp _ _ _ 0 [some (.ref 1), some (.int (vz i1)), none] [] _ _
  refine w_ldA e50_0 (fun _ => rfl) rfl ?_
  refine w_ldI e50_1 (fun _ => rfl) rfl ?_
  obtain ⟨m2, m3, m4, m5, hm6, hm7, hm8, hm9, hm10, hm11, e1⟩ := tc_main hT
  refine w_cv e50_2 (by decide) rfl e1 rfl (Nat.le_of_ble_eq_true rfl) (Nat.le_of_ble_eq_true rfl) (Nat.le_of_ble_eq_true rfl) (by decide) (by decide) (c59 hz hT hi_1) (fun o12 v13 hq14 => ?_)
  obtain ⟨rfl, q16, h17, rfl⟩ := hq14
  refine w_if e50_5 (by omega) (fun (h18 : q16 = 0) => ?_) (fun (h18 : q16 ≠ 0) => ?_)
  ·
    refine w_kI e50_18 ?_
    exact w_ri e50_19 rfl ⟨hT, -1, (by omega), rfl⟩
  ·
    refine w_ldA e50_8 (fun _ => rfl) rfl ?_
    refine w_get e50_9 e1 rfl ?_
    obtain ⟨s20, hs21, e19⟩ := tc_tri hT
    refine w_get e50_12 e19 rfl ?_
    refine w_if e50_15 (by omega) (fun (h22 : s20 ≠ 0) => ?_) (fun (h22 : s20 = 0) => ?_)
    ·
      refine w_ldA e50_20 (fun _ => rfl) rfl ?_
      refine w_get e50_21 e1 rfl ?_
      obtain ⟨c24, hc25, e23⟩ := tc_poly hT (rfl : ty 227 = 1)
      refine w_cv e50_24 (by decide) rfl e23 rfl (Nat.le_of_ble_eq_true rfl) (Nat.le_of_ble_eq_true rfl) (Nat.le_of_ble_eq_true rfl) (by decide) (by decide) (c17 (tc_fz hT) (rfl : ty 227 = 1) (Or.inr (by decide))) (fun o26 v27 hq28 => ?_)
      obtain ⟨hT29, rfl⟩ := hq28
      have hT30 := tc_uf hT hT29
      have e31 := (tc_k1 hT29).trans e1
      refine w_ldA e50_27 (fun _ => rfl) rfl ?_
      refine w_get e50_28 e31 rfl ?_
      refine w_ldA e50_31 (fun _ => rfl) rfl ?_
      refine w_get e50_32 e31 rfl ?_
      refine w_ldI e50_35 (fun _ => rfl) rfl ?_
      obtain ⟨f33, hf34, e32⟩ := tc_polys hT30
      obtain ⟨a35, h36, h37⟩ : ∃ b, f33 (i1).toNat = some b ∧ ty b = 1 := ⟨_, hf34 _ (by omega), ty_pi _ (by omega)⟩
      refine w_qld e50_36 e32 (by decide) (by omega) (by omega) (by decide) h36 ?_
      obtain ⟨c39, hc40, e38⟩ := tc_poly hT30 (rfl : ty 234 = 1)
      refine w_cv e50_37 (by decide) rfl e38 rfl (Nat.le_of_ble_eq_true rfl) (Nat.le_of_ble_eq_true rfl) (Nat.le_of_ble_eq_true rfl) (by decide) (by decide) (c19 (tc_fz hT30) (rfl : ty 234 = 1) (Or.inr (by decide)) h37) (fun o41 v42 hq43 => ?_)
      obtain ⟨hT44, rfl⟩ := hq43
      have hT45 := tc_uf hT30 hT44
      have e46 := (tc_k1 hT44).trans e31
      refine w_ldA e50_40 (fun _ => rfl) rfl ?_
      refine w_kS e50_41 rfl ?_
      refine w_cv e50_44 (by decide) rfl e46 rfl (Nat.le_of_ble_eq_true rfl) (Nat.le_of_ble_eq_true rfl) (Nat.le_of_ble_eq_true rfl) (by decide) (by decide) (c72 hz hT45 (by omega)) (fun o47 v48 hq49 => ?_)
      obtain ⟨hT50, q51, h52, rfl⟩ := hq49
      refine w_stI (j := 2) (A1 := [some (.ref 1), some (.int (vz i1)), some (.int (vz q51))]) e50_47 (fun _ => rfl) (by decide) rfl ?_
      refine w_ldA e50_48 (fun _ => rfl) rfl ?_
      refine w_ldA e50_49 (fun _ => rfl) rfl ?_
      obtain ⟨m54, m55, m56, m57, hm58, hm59, hm60, hm61, hm62, hm63, e53⟩ := tc_main hT50
      refine w_get e50_50 e53 rfl ?_
      refine w_put e50_53 e53 (Nat.le_of_ble_eq_true rfl) rfl (fun v66 b64 h65 => ?_)
      have h65 : vm_at v66 1 = some (.inr (5, [.ref 2, .ref 6, .ref 55, .int (vz θ.2.1), .ref 56, .int (vz m54), .ref 217, .ref 219, .ref 224, .ref 227, .ref 230, .ref 233, .ref 234, .ref 237, .int (vz m55), .int (vz θ.2.2.2.1), .int (vz m56), .int (vz m55)])) := h65
      have hT67 := ts_main hz hT50 (by omega) b64 h65
      refine w_ldI e50_56 (fun _ => rfl) rfl ?_
      refine w_if e50_57 (by omega) (fun (h68 : q51 ≠ 0) => ?_) (fun (h68 : q51 = 0) => ?_)
      ·
        refine w_ldA e50_62 (fun _ => rfl) rfl ?_
        refine w_get e50_63 h65 rfl ?_
        refine w_ldA e50_66 (fun _ => rfl) rfl ?_
        refine w_get e50_67 h65 rfl ?_
        refine w_ldI e50_70 (fun _ => rfl) rfl ?_
        obtain ⟨f70, hf71, e69⟩ := tc_polys hT67
        obtain ⟨a72, h73, h74⟩ : ∃ b, f70 (i1).toNat = some b ∧ ty b = 1 := ⟨_, hf71 _ (by omega), ty_pi _ (by omega)⟩
        refine w_qld e50_71 e69 (by decide) (by omega) (by omega) (by decide) h73 ?_
        obtain ⟨c76, hc77, e75⟩ := tc_poly hT67 (rfl : ty 230 = 1)
        refine w_cv e50_72 (by decide) rfl e75 rfl (Nat.le_of_ble_eq_true rfl) (Nat.le_of_ble_eq_true rfl) (Nat.le_of_ble_eq_true rfl) (by decide) (by decide) (c19 (tc_fz hT67) (rfl : ty 230 = 1) (Or.inr (by decide)) h74) (fun o78 v79 hq80 => ?_)
        obtain ⟨hT81, rfl⟩ := hq80
        have hT82 := tc_uf hT67 hT81
        have e83 := (tc_k1 hT81).trans h65
        refine w_ldA e50_75 (fun _ => rfl) rfl ?_
        refine w_get e50_76 e83 rfl ?_
        refine w_kI e50_79 ?_
        refine w_ldA e50_80 (fun _ => rfl) rfl ?_
        refine w_get e50_81 e83 rfl ?_
        refine w_kI e50_84 ?_
        refine w_kB e50_85 rfl ?_
        obtain ⟨f85, e84⟩ := tc_i8 hT82 (rfl : ty 237 = 15)
        obtain ⟨f87, e86⟩ := tc_i8 hT82 (rfl : ty 233 = 15)
        refine w_acI e50_87 e84 e86 (by decide) (by omega) (by omega) (by omega) (by omega) (by omega) (by decide) (by decide) (Nat.le_of_ble_eq_true rfl) (by decide) (by decide) (fun v88 b89 h90 => ?_)
        have hT91 := ts_i8 hT82 (rfl : ty 233 = 15) b89 h90
        have e92 := (b89.2 1 (by decide)).trans e83
        have e93 := (b89.2 237 (by decide)).trans e84
        refine w_ldA e50_90 (fun _ => rfl) rfl ?_
        refine w_get e50_91 e92 rfl ?_
        refine w_ldA e50_94 (fun _ => rfl) rfl ?_
        refine w_get e50_95 e92 rfl ?_
        obtain ⟨c95, hc96, e94⟩ := tc_poly hT91 (rfl : ty 227 = 1)
        refine w_cv e50_98 (by decide) rfl e94 rfl (Nat.le_of_ble_eq_true rfl) (Nat.le_of_ble_eq_true rfl) (Nat.le_of_ble_eq_true rfl) (by decide) (by decide) (c19 (tc_fz hT91) (rfl : ty 227 = 1) (Or.inr (by decide)) (rfl : ty 234 = 1)) (fun o97 v98 hq99 => ?_)
        obtain ⟨hT100, rfl⟩ := hq99
        have hT101 := tc_uf hT91 hT100
        have e102 := (tc_k1 hT100).trans e92
        refine w_ldA e50_101 (fun _ => rfl) rfl ?_
        refine w_get e50_102 e102 rfl ?_
        obtain ⟨c104, hc105, e103⟩ := tc_poly hT101 (rfl : ty 227 = 1)
        refine w_get e50_105 e103 rfl ?_
        refine w_if e50_108 (by omega) (fun (h106 : c104 ≠ 0) => ?_) (fun (h106 : c104 = 0) => ?_)
        ·
          refine w_kI e50_115 ?_
          exact w_ri e50_116 rfl ⟨hT101, 0, (by omega), rfl⟩
        ·
          refine w_kI e50_111 ?_
          refine w_x e50_112 (fun _ => rfl) ?_
          exact w_ri e50_116 rfl ⟨hT101, 1, (by omega), rfl⟩
      ·
        refine w_kI e50_60 ?_
        exact w_ri e50_61 rfl ⟨hT67, 2, (by omega), rfl⟩
    ·
      refine w_kI e50_18 ?_
      exact w_ri e50_19 rfl ⟨hT, -1, (by omega), rfl⟩
set_option maxRecDepth 100000 in
set_option maxHeartbeats 4000000 in
theorem c51 {θ : tc_S} {v0 : (Bool × Bool) × vm_H} {vh : vm_H} (hz : v0.1.1 = false) (hT : tc θ v0 vh) {i1 : Int} (hi_1 : -2147483648 ≤ i1 ∧ i1 < 2147483648) {i2 : Int} (hi_2 : -2147483648 ≤ i2 ∧ i2 < 2147483648) : vm_Rp 2 42 51 [.ref 1, .int (vz i1), .int (vz i2)] vh (fun r v1 => vh = v1 ∧ ∃ q : Int, (-2147483648 ≤ q ∧ q < 2147483648) ∧ r = some (.int (vz q))) := by
  have hok : (0 ≤ θ.1 ∧ θ.1 ≤ 8) ∧ (0 ≤ θ.2.1 ∧ θ.2.1 ≤ 16) ∧ (-2147483648 ≤ θ.2.2.2.1 ∧ θ.2.2.2.1 < 2147483648) ∧ (0 ≤ θ.2.2.2.2 ∧ θ.2.2.2.2 ≤ 8) := hT.1
  refine w_in (m := 1) ?_
  show vm_Wp _ _ _ 0 [some (.ref 1), some (.int (vz i1)), some (.int (vz i2)), none] [] _ _
  refine w_ldA e51_0 (fun _ => rfl) rfl ?_
  refine w_ldI e51_1 (fun _ => rfl) rfl ?_
  obtain ⟨m2, m3, m4, m5, hm6, hm7, hm8, hm9, hm10, hm11, e1⟩ := tc_main hT
  refine w_cv e51_2 (by decide) rfl e1 rfl (Nat.le_of_ble_eq_true rfl) (Nat.le_of_ble_eq_true rfl) (Nat.le_of_ble_eq_true rfl) (by decide) (by decide) (c60 hz hT hi_1) (fun o12 v13 hq14 => ?_)
  obtain ⟨rfl, q16, h17, rfl⟩ := hq14
  refine w_if e51_5 (by omega) (fun (h18 : q16 ≠ 0) => ?_) (fun (h18 : q16 = 0) => ?_)
  ·
    refine w_ldA e51_10 (fun _ => rfl) rfl ?_
    refine w_get e51_11 e1 rfl ?_
    obtain ⟨s20, hs21, e19⟩ := tc_tri hT
    refine w_get e51_14 e19 rfl ?_
    refine w_ldI e51_17 (fun _ => rfl) rfl ?_
    obtain ⟨f23, hf24, e22⟩ := tc_mem hT
    obtain ⟨a25, h26, h27⟩ := hf24 (i1).toNat (by omega)
    refine w_qld e51_18 e22 (by decide) (by omega) (by omega) (by decide) h26 ?_
    refine w_stA (j := 3) (A1 := [some (.ref 1), some (.int (vz i1)), some (.int (vz i2)), some (.ref a25)]) e51_19 (fun _ => rfl) (by decide) rfl ?_
    refine w_ldI e51_20 (fun _ => rfl) rfl ?_
    by_cases h28 : i2 < 0 ∨ 3 < i2
    ·
      refine w_swO (t := 84) e51_21 hi_2 h28 rfl ?_
      refine w_kI e51_84 ?_
      exact w_ri e51_85 rfl ⟨rfl, -1, (by omega), rfl⟩
    ·
      have h29 : i2 = 0 ∨ i2 = 1 ∨ i2 = 2 ∨ i2 = 3 := by omega
      rcases h29 with h29 | h29 | h29 | h29
      ·
        refine w_swI (t := 52) e51_21 hi_2 h28 (by rw [h29]; rfl) rfl ?_
        refine w_ldA e51_52 (fun _ => rfl) rfl ?_
        refine w_get e51_53 e1 rfl ?_
        refine w_ldA e51_56 (fun _ => rfl) rfl ?_
        obtain ⟨p31, d32, hp33, hd34, e30⟩ := tc_row hT h27
        refine w_get e51_57 e30 rfl ?_
        obtain ⟨hn36, e35⟩ := tc_places hT
        refine w_cv e51_60 (by decide) rfl e35 rfl (Nat.le_of_ble_eq_true rfl) (Nat.le_of_ble_eq_true rfl) (Nat.le_of_ble_eq_true rfl) (by decide) (by decide) (c4 hT hp33) (fun o37 v38 hq39 => ?_)
        obtain ⟨rfl, q41, h42, rfl⟩ := hq39
        exact w_ri e51_63 rfl ⟨rfl, q41, h42, rfl⟩
      ·
        refine w_swI (t := 64) e51_21 hi_2 h28 (by rw [h29]; rfl) rfl ?_
        refine w_ldA e51_64 (fun _ => rfl) rfl ?_
        obtain ⟨p44, d45, hp46, hd47, e43⟩ := tc_row hT h27
        refine w_get e51_65 e43 rfl ?_
        exact w_ri e51_68 rfl ⟨rfl, d45, hd47, rfl⟩
      ·
        refine w_swI (t := 69) e51_21 hi_2 h28 (by rw [h29]; rfl) rfl ?_
        refine w_ldA e51_69 (fun _ => rfl) rfl ?_
        obtain ⟨p49, d50, hp51, hd52, e48⟩ := tc_row hT h27
        refine w_get e51_70 e48 rfl ?_
        obtain ⟨c54, hc55, e53⟩ := tc_poly hT (ty_r h27)
        refine w_get e51_73 e53 rfl ?_
        exact w_ri e51_76 rfl ⟨rfl, c54, (by omega), rfl⟩
      ·
        refine w_swI (t := 77) e51_21 hi_2 h28 (by rw [h29]; rfl) rfl ?_
        refine w_ldA e51_77 (fun _ => rfl) rfl ?_
        refine w_get e51_78 e1 rfl ?_
        refine w_ldI e51_81 (fun _ => rfl) rfl ?_
        obtain ⟨f57, e56⟩ := tc_i8 hT (rfl : ty 233 = 15)
        refine w_aldO e51_82 e56 (by omega) (by omega) (by decide) (fun q58 h59 h60 => ?_)
        exact w_ri e51_83 rfl ⟨rfl, q58, h59, rfl⟩
  ·
    refine w_kI e51_8 ?_
    exact w_ri e51_9 rfl ⟨rfl, -1, (by omega), rfl⟩
set_option maxRecDepth 100000 in
set_option maxHeartbeats 4000000 in
theorem c52 {θ : tc_S} {v0 : (Bool × Bool) × vm_H} {vh : vm_H} (hz : v0.1.1 = false) (hT : tc θ v0 vh) {i1 : Int} (hi_1 : -2147483648 ≤ i1 ∧ i1 < 2147483648) : vm_Rp 1 22 52 [.ref 1, .int (vz i1)] vh (fun r v1 => vh = v1 ∧ ∃ q : Int, (-2147483648 ≤ q ∧ q < 2147483648) ∧ r = some (.int (vz q))) := by
  have hok : (0 ≤ θ.1 ∧ θ.1 ≤ 8) ∧ (0 ≤ θ.2.1 ∧ θ.2.1 ≤ 16) ∧ (-2147483648 ≤ θ.2.2.2.1 ∧ θ.2.2.2.1 < 2147483648) ∧ (0 ≤ θ.2.2.2.2 ∧ θ.2.2.2.2 ≤ 8) := hT.1
  refine w_in (m := 0) ?_
  show vm_Wp _ _ _ 0 [some (.ref 1), some (.int (vz i1))] [] _ _
  refine w_ldI e52_0 (fun _ => rfl) rfl ?_
  by_cases h1 : i1 < 0 ∨ 9 < i1
  ·
    refine w_swO (t := 118) e52_1 hi_1 h1 rfl ?_
    refine w_kI e52_118 ?_
    exact w_ri e52_119 rfl ⟨rfl, -1, (by omega), rfl⟩
  ·
    have h2 : i1 = 0 ∨ i1 = 1 ∨ i1 = 2 ∨ i1 = 3 ∨ i1 = 4 ∨ i1 = 5 ∨ i1 = 6 ∨ i1 = 7 ∨ i1 = 8 ∨ i1 = 9 := by omega
    rcases h2 with h2 | h2 | h2 | h2 | h2 | h2 | h2 | h2 | h2 | h2
    ·
      refine w_swI (t := 56) e52_1 hi_1 h1 (by rw [h2]; rfl) rfl ?_
      refine w_ldA e52_56 (fun _ => rfl) rfl ?_
      obtain ⟨m4, m5, m6, m7, hm8, hm9, hm10, hm11, hm12, hm13, e3⟩ := tc_main hT
      refine w_get e52_57 e3 rfl ?_
      obtain ⟨hn15, e14⟩ := tc_places hT
      refine w_get e52_60 e14 rfl ?_
      exact w_ri e52_63 rfl ⟨rfl, θ.1, (by omega), rfl⟩
    ·
      refine w_swI (t := 64) e52_1 hi_1 h1 (by rw [h2]; rfl) rfl ?_
      refine w_ldA e52_64 (fun _ => rfl) rfl ?_
      obtain ⟨m17, m18, m19, m20, hm21, hm22, hm23, hm24, hm25, hm26, e16⟩ := tc_main hT
      refine w_get e52_65 e16 rfl ?_
      exact w_ri e52_68 rfl ⟨rfl, θ.2.1, (by omega), rfl⟩
    ·
      refine w_swI (t := 69) e52_1 hi_1 h1 (by rw [h2]; rfl) rfl ?_
      refine w_ldA e52_69 (fun _ => rfl) rfl ?_
      obtain ⟨m28, m29, m30, m31, hm32, hm33, hm34, hm35, hm36, hm37, e27⟩ := tc_main hT
      refine w_cv e52_70 (by decide) rfl e27 rfl (Nat.le_of_ble_eq_true rfl) (Nat.le_of_ble_eq_true rfl) (Nat.le_of_ble_eq_true rfl) (by decide) (by decide) (c61 hz hT) (fun o38 v39 hq40 => ?_)
      obtain ⟨rfl, q42, h43, rfl⟩ := hq40
      exact w_ri e52_73 rfl ⟨rfl, q42, h43, rfl⟩
    ·
      refine w_swI (t := 74) e52_1 hi_1 h1 (by rw [h2]; rfl) rfl ?_
      refine w_ldA e52_74 (fun _ => rfl) rfl ?_
      obtain ⟨m45, m46, m47, m48, hm49, hm50, hm51, hm52, hm53, hm54, e44⟩ := tc_main hT
      refine w_get e52_75 e44 rfl ?_
      obtain ⟨s56, hs57, e55⟩ := tc_tri hT
      refine w_get e52_78 e55 rfl ?_
      exact w_ri e52_81 rfl ⟨rfl, s56, (by omega), rfl⟩
    ·
      refine w_swI (t := 82) e52_1 hi_1 h1 (by rw [h2]; rfl) rfl ?_
      refine w_ldA e52_82 (fun _ => rfl) rfl ?_
      obtain ⟨m59, m60, m61, m62, hm63, hm64, hm65, hm66, hm67, hm68, e58⟩ := tc_main hT
      refine w_get e52_83 e58 rfl ?_
      exact w_ri e52_86 rfl ⟨rfl, θ.2.2.2.1, hm68, rfl⟩
    ·
      refine w_swI (t := 87) e52_1 hi_1 h1 (by rw [h2]; rfl) rfl ?_
      refine w_ldA e52_87 (fun _ => rfl) rfl ?_
      obtain ⟨m70, m71, m72, m73, hm74, hm75, hm76, hm77, hm78, hm79, e69⟩ := tc_main hT
      refine w_get e52_88 e69 rfl ?_
      exact w_ri e52_91 rfl ⟨rfl, m70, (by omega), rfl⟩
    ·
      refine w_swI (t := 92) e52_1 hi_1 h1 (by rw [h2]; rfl) rfl ?_
      refine w_ldA e52_92 (fun _ => rfl) rfl ?_
      obtain ⟨m81, m82, m83, m84, hm85, hm86, hm87, hm88, hm89, hm90, e80⟩ := tc_main hT
      refine w_get e52_93 e80 rfl ?_
      exact w_ri e52_96 rfl ⟨rfl, m83, hm87, rfl⟩
    ·
      refine w_swI (t := 97) e52_1 hi_1 h1 (by rw [h2]; rfl) rfl ?_
      refine w_ldA e52_97 (fun _ => rfl) rfl ?_
      obtain ⟨m92, m93, m94, m95, hm96, hm97, hm98, hm99, hm100, hm101, e91⟩ := tc_main hT
      refine w_get e52_98 e91 rfl ?_
      exact w_ri e52_101 rfl ⟨rfl, m95, hm99, rfl⟩
    ·
      refine w_swI (t := 102) e52_1 hi_1 h1 (by rw [h2]; rfl) rfl ?_
      refine w_ldA e52_102 (fun _ => rfl) rfl ?_
      obtain ⟨m103, m104, m105, m106, hm107, hm108, hm109, hm110, hm111, hm112, e102⟩ := tc_main hT
      refine w_get e52_103 e102 rfl ?_
      obtain ⟨c114, hc115, e113⟩ := tc_poly hT (rfl : ty 224 = 1)
      refine w_get e52_106 e113 rfl ?_
      exact w_ri e52_109 rfl ⟨rfl, c114, (by omega), rfl⟩
    ·
      refine w_swI (t := 110) e52_1 hi_1 h1 (by rw [h2]; rfl) rfl ?_
      refine w_ldA e52_110 (fun _ => rfl) rfl ?_
      obtain ⟨m117, m118, m119, m120, hm121, hm122, hm123, hm124, hm125, hm126, e116⟩ := tc_main hT
      refine w_get e52_111 e116 rfl ?_
      obtain ⟨c128, hc129, e127⟩ := tc_poly hT (rfl : ty 227 = 1)
      refine w_get e52_114 e127 rfl ?_
      exact w_ri e52_117 rfl ⟨rfl, c128, (by omega), rfl⟩
set_option maxRecDepth 100000 in
set_option maxHeartbeats 4000000 in
theorem c53 {θ : tc_S} {v0 : (Bool × Bool) × vm_H} {vh : vm_H} (hz : v0.1.1 = false) (hT : tc θ v0 vh) {i1 : Int} (hi_1 : -2147483648 ≤ i1 ∧ i1 < 2147483648) {i2 : Int} (hi_2 : -2147483648 ≤ i2 ∧ i2 < 2147483648) {i3 : Int} (hi_3 : -2147483648 ≤ i3 ∧ i3 < 2147483648) : vm_Rp 3 69 53 [.ref 1, .int (vz i1), .int (vz i2), .int (vz i3)] vh (fun r v1 => (tc θ v0 v1) ∧ ∃ q : Int64, r = some (.long q)) := by
  have hok : (0 ≤ θ.1 ∧ θ.1 ≤ 8) ∧ (0 ≤ θ.2.1 ∧ θ.2.1 ≤ 16) ∧ (-2147483648 ≤ θ.2.2.2.1 ∧ θ.2.2.2.1 < 2147483648) ∧ (0 ≤ θ.2.2.2.2 ∧ θ.2.2.2.2 ≤ 8) := hT.1
  refine w_in (m := 1) ?_
  show vm_Wp _ _ _ 0 [some (.ref 1), some (.int (vz i1)), some (.int (vz i2)), some (.int (vz i3)), none] [] _ _
  refine w_ldA e53_0 (fun _ => rfl) rfl ?_
  refine w_ldI e53_1 (fun _ => rfl) rfl ?_
  refine w_ldI e53_2 (fun _ => rfl) rfl ?_
  obtain ⟨m2, m3, m4, m5, hm6, hm7, hm8, hm9, hm10, hm11, e1⟩ := tc_main hT
  refine w_cv e53_3 (by decide) rfl e1 rfl (Nat.le_of_ble_eq_true rfl) (Nat.le_of_ble_eq_true rfl) (Nat.le_of_ble_eq_true rfl) (by decide) (by decide) (c62 hz hT hi_1 hi_2) (fun o12 v13 hq14 => ?_)
  obtain ⟨hT15, rfl | ⟨a16, h17, rfl⟩⟩ := hq14
  ·
    refine w_stN (j := 4) (A1 := [some (.ref 1), some (.int (vz i1)), some (.int (vz i2)), some (.int (vz i3)), some (.null)]) e53_6 (fun _ => rfl) (by decide) rfl ?_
    refine w_ldN e53_8 (fun _ => rfl) rfl ?_
    refine w_x e53_10 (fun _ => rfl) ?_
    refine w_oL e53_22 (fun _ => rfl) (fun l18 => ?_)
    exact w_rl e53_23 rfl ⟨hT15, _, rfl⟩
  ·
    refine w_stA (j := 4) (A1 := [some (.ref 1), some (.int (vz i1)), some (.int (vz i2)), some (.int (vz i3)), some (.ref a16)]) e53_6 (fun _ => rfl) (by decide) rfl ?_
    refine w_ldA e53_8 (fun _ => rfl) rfl ?_
    refine w_x e53_10 (fun _ => rfl) ?_
    refine w_ldA e53_13 (fun _ => rfl) rfl ?_
    refine w_ldI e53_15 (fun _ => rfl) rfl ?_
    obtain ⟨c20, hc21, e19⟩ := tc_poly hT15 h17
    refine w_cv e53_16 (by decide) rfl e19 rfl (Nat.le_of_ble_eq_true rfl) (Nat.le_of_ble_eq_true rfl) (Nat.le_of_ble_eq_true rfl) (by decide) (by decide) (c18 hT15 h17 hi_3) (fun o22 v23 hq24 => ?_)
    obtain ⟨rfl, q26, h27, rfl⟩ := hq24
    refine w_if e53_19 (by omega) (fun (h28 : q26 ≠ 0) => ?_) (fun (h28 : q26 = 0) => ?_)
    ·
      refine w_ldA e53_24 (fun _ => rfl) rfl ?_
      refine w_get e53_26 e19 rfl ?_
      refine w_ldI e53_29 (fun _ => rfl) rfl ?_
      obtain ⟨f30, e29⟩ := tc_l60 hT15 (ty_p h17).2
      refine w_lldO e53_30 e29 (by omega) (by omega) (by decide) (fun l31 => ?_)
      exact w_rl e53_31 rfl ⟨hT15, _, rfl⟩
    ·
      refine w_oL e53_22 (fun _ => rfl) (fun l32 => ?_)
      exact w_rl e53_23 rfl ⟨hT15, _, rfl⟩
set_option maxRecDepth 100000 in
set_option maxHeartbeats 4000000 in
theorem c54 {θ : tc_S} {v0 : (Bool × Bool) × vm_H} {vh : vm_H} (hz : v0.1.1 = false) (hT : tc θ v0 vh) {i1 : Int} (hi_1 : -2147483648 ≤ i1 ∧ i1 < 2147483648) {i2 : Int} (hi_2 : -2147483648 ≤ i2 ∧ i2 < 2147483648) {i3 : Int} (hi_3 : -2147483648 ≤ i3 ∧ i3 < 2147483648) : vm_Rp 3 69 54 [.ref 1, .int (vz i1), .int (vz i2), .int (vz i3)] vh (fun r v1 => (tc θ v0 v1) ∧ ∃ q : Int, (-2147483648 ≤ q ∧ q < 2147483648) ∧ r = some (.int (vz q))) := by
  have hok : (0 ≤ θ.1 ∧ θ.1 ≤ 8) ∧ (0 ≤ θ.2.1 ∧ θ.2.1 ≤ 16) ∧ (-2147483648 ≤ θ.2.2.2.1 ∧ θ.2.2.2.1 < 2147483648) ∧ (0 ≤ θ.2.2.2.2 ∧ θ.2.2.2.2 ≤ 8) := hT.1
  refine w_in (m := 1) ?_
  show vm_Wp _ _ _ 0 [some (.ref 1), some (.int (vz i1)), some (.int (vz i2)), some (.int (vz i3)), none] [] _ _
  refine w_ldA e54_0 (fun _ => rfl) rfl ?_
  refine w_ldI e54_1 (fun _ => rfl) rfl ?_
  refine w_ldI e54_2 (fun _ => rfl) rfl ?_
  obtain ⟨m2, m3, m4, m5, hm6, hm7, hm8, hm9, hm10, hm11, e1⟩ := tc_main hT
  refine w_cv e54_3 (by decide) rfl e1 rfl (Nat.le_of_ble_eq_true rfl) (Nat.le_of_ble_eq_true rfl) (Nat.le_of_ble_eq_true rfl) (by decide) (by decide) (c62 hz hT hi_1 hi_2) (fun o12 v13 hq14 => ?_)
  obtain ⟨hT15, rfl | ⟨a16, h17, rfl⟩⟩ := hq14
  ·
    refine w_stN (j := 4) (A1 := [some (.ref 1), some (.int (vz i1)), some (.int (vz i2)), some (.int (vz i3)), some (.null)]) e54_6 (fun _ => rfl) (by decide) rfl ?_
    refine w_ldN e54_8 (fun _ => rfl) rfl ?_
    refine w_x e54_10 (fun _ => rfl) ?_
    refine w_kI e54_22 ?_
    exact w_ri e54_23 rfl ⟨hT15, -1, (by omega), rfl⟩
  ·
    refine w_stA (j := 4) (A1 := [some (.ref 1), some (.int (vz i1)), some (.int (vz i2)), some (.int (vz i3)), some (.ref a16)]) e54_6 (fun _ => rfl) (by decide) rfl ?_
    refine w_ldA e54_8 (fun _ => rfl) rfl ?_
    refine w_x e54_10 (fun _ => rfl) ?_
    refine w_ldA e54_13 (fun _ => rfl) rfl ?_
    refine w_ldI e54_15 (fun _ => rfl) rfl ?_
    obtain ⟨c19, hc20, e18⟩ := tc_poly hT15 h17
    refine w_cv e54_16 (by decide) rfl e18 rfl (Nat.le_of_ble_eq_true rfl) (Nat.le_of_ble_eq_true rfl) (Nat.le_of_ble_eq_true rfl) (by decide) (by decide) (c18 hT15 h17 hi_3) (fun o21 v22 hq23 => ?_)
    obtain ⟨rfl, q25, h26, rfl⟩ := hq23
    refine w_if e54_19 (by omega) (fun (h27 : q25 ≠ 0) => ?_) (fun (h27 : q25 = 0) => ?_)
    ·
      refine w_ldA e54_24 (fun _ => rfl) rfl ?_
      obtain ⟨m29, m30, m31, m32, hm33, hm34, hm35, hm36, hm37, hm38, e28⟩ := tc_main hT15
      refine w_get e54_25 e28 rfl ?_
      refine w_ldA e54_28 (fun _ => rfl) rfl ?_
      refine w_get e54_30 e18 rfl ?_
      refine w_ldI e54_33 (fun _ => rfl) rfl ?_
      obtain ⟨f40, e39⟩ := tc_l60 hT15 (ty_p h17).1
      refine w_lldO e54_34 e39 (by omega) (by omega) (by decide) (fun l41 => ?_)
      obtain ⟨hn43, e42⟩ := tc_places hT15
      refine w_cv e54_35 (by decide) rfl e42 rfl (Nat.le_of_ble_eq_true rfl) (Nat.le_of_ble_eq_true rfl) (Nat.le_of_ble_eq_true rfl) (by decide) (by decide) (c9 hT15) (fun o44 v45 hq46 => ?_)
      obtain ⟨rfl, q48, h49, rfl⟩ := hq46
      exact w_ri e54_38 rfl ⟨hT15, q48, h49, rfl⟩
    ·
      refine w_kI e54_22 ?_
      exact w_ri e54_23 rfl ⟨hT15, -1, (by omega), rfl⟩
set_option maxRecDepth 100000 in
set_option maxHeartbeats 4000000 in
theorem c55 {θ : tc_S} {v0 : (Bool × Bool) × vm_H} {vh : vm_H} (hz : v0.1.1 = false) (hT : tc θ v0 vh) {i1 : Int} (hi_1 : -2147483648 ≤ i1 ∧ i1 < 2147483648) {l_2 : Int64} : vm_Rp 1 21 55 [.ref 1, .int (vz i1), .long l_2] vh (fun r v1 => (tc θ v0 v1) ∧ ∃ q : Int, ((0 ≤ q ∧ q ≤ 1) ∧ ((q = 0 ∧ (i1 < 0 ∨ θ.1 ≤ i1)) ∨ (q = 1 ∧ 0 ≤ i1 ∧ i1 < θ.1))) ∧ r = some (.int (vz q))) := by
  have hok : (0 ≤ θ.1 ∧ θ.1 ≤ 8) ∧ (0 ≤ θ.2.1 ∧ θ.2.1 ≤ 16) ∧ (-2147483648 ≤ θ.2.2.2.1 ∧ θ.2.2.2.1 < 2147483648) ∧ (0 ≤ θ.2.2.2.2 ∧ θ.2.2.2.2 ≤ 8) := hT.1
  refine w_in (m := 0) ?_
  show vm_Wp _ _ _ 0 [some (.ref 1), some (.int (vz i1)), some (.long l_2), none] [] _ _
  refine w_ldA e55_0 (fun _ => rfl) rfl ?_
  obtain ⟨m2, m3, m4, m5, hm6, hm7, hm8, hm9, hm10, hm11, e1⟩ := tc_main hT
  refine w_get e55_1 e1 rfl ?_
  refine w_ldI e55_4 (fun _ => rfl) rfl ?_
  obtain ⟨hn13, e12⟩ := tc_places hT
  refine w_cv e55_5 (by decide) rfl e12 rfl (Nat.le_of_ble_eq_true rfl) (Nat.le_of_ble_eq_true rfl) (Nat.le_of_ble_eq_true rfl) (by decide) (by decide) (c2 hT hi_1) (fun o14 v15 hq16 => ?_)
  obtain ⟨rfl, q18, h19, rfl⟩ := hq16
  refine w_if e55_8 (by omega) (fun (h20 : q18 ≠ 0) => ?_) (fun (h20 : q18 = 0) => ?_)
  ·
    refine w_ldA e55_13 (fun _ => rfl) rfl ?_
    refine w_get e55_14 e1 rfl ?_
    refine w_get e55_17 e12 rfl ?_
    refine w_ldI e55_20 (fun _ => rfl) rfl ?_
    refine w_ldL e55_21 (fun _ => rfl) rfl ?_
    obtain ⟨f22, e21⟩ := tc_point hT
    refine w_lst e55_22 e21 (by omega) (by omega) (by decide) (fun v25 b23 h24 => ?_)
    have hT26 := ts_point hT b23 h24
    have e27 := (b23.2 1 (by decide)).trans e1
    have e28 := (b23.2 2 (by decide)).trans e12
    refine w_kI e55_23 ?_
    exact w_rz e55_24 rfl (by omega) ⟨hT26, 1, (by omega), rfl⟩
  ·
    refine w_kI e55_11 ?_
    exact w_rz e55_12 rfl (by omega) ⟨hT, 0, (by omega), rfl⟩
set_option maxRecDepth 100000 in
set_option maxHeartbeats 4000000 in
theorem c56 {θ : tc_S} {v0 : (Bool × Bool) × vm_H} {vh : vm_H} (hz : v0.1.1 = false) (hT : tc θ v0 vh) {i1 : Int} (hi_1 : -2147483648 ≤ i1 ∧ i1 < 2147483648) {i2 : Int} (hi_2 : -2147483648 ≤ i2 ∧ i2 < 2147483648) : vm_Rp 3 73 56 [.ref 1, .int (vz i1), .int (vz i2)] vh (fun r v1 => (tc θ v0 v1) ∧ ∃ q : Int64, r = some (.long q)) := by
  have hok : (0 ≤ θ.1 ∧ θ.1 ≤ 8) ∧ (0 ≤ θ.2.1 ∧ θ.2.1 ≤ 16) ∧ (-2147483648 ≤ θ.2.2.2.1 ∧ θ.2.2.2.1 < 2147483648) ∧ (0 ≤ θ.2.2.2.2 ∧ θ.2.2.2.2 ≤ 8) := hT.1
  refine w_in (m := 1) ?_
  show vm_Wp _ _ _ 0 [some (.ref 1), some (.int (vz i1)), some (.int (vz i2)), none] [] _ _
  refine w_ldA e56_0 (fun _ => rfl) rfl ?_
  refine w_ldI e56_1 (fun _ => rfl) rfl ?_
  refine w_ldI e56_2 (fun _ => rfl) rfl ?_
  obtain ⟨m2, m3, m4, m5, hm6, hm7, hm8, hm9, hm10, hm11, e1⟩ := tc_main hT
  refine w_cv e56_3 (by decide) rfl e1 rfl (Nat.le_of_ble_eq_true rfl) (Nat.le_of_ble_eq_true rfl) (Nat.le_of_ble_eq_true rfl) (by decide) (by decide) (c62 hz hT hi_1 hi_2) (fun o12 v13 hq14 => ?_)
  obtain ⟨hT15, rfl | ⟨a16, h17, rfl⟩⟩ := hq14
  ·
    refine w_stN (j := 3) (A1 := [some (.ref 1), some (.int (vz i1)), some (.int (vz i2)), some (.null)]) e56_6 (fun _ => rfl) (by decide) rfl ?_
    refine w_ldN e56_7 (fun _ => rfl) rfl ?_
    refine w_x e56_8 (fun _ => rfl) ?_
    refine w_oL e56_11 (fun _ => rfl) (fun l18 => ?_)
    refine w_x e56_12 (fun _ => rfl) ?_
    exact w_rl e56_23 rfl ⟨hT15, _, rfl⟩
  ·
    refine w_stA (j := 3) (A1 := [some (.ref 1), some (.int (vz i1)), some (.int (vz i2)), some (.ref a16)]) e56_6 (fun _ => rfl) (by decide) rfl ?_
    refine w_ldA e56_7 (fun _ => rfl) rfl ?_
    refine w_x e56_8 (fun _ => rfl) ?_
    refine w_ldA e56_15 (fun _ => rfl) rfl ?_
    obtain ⟨m20, m21, m22, m23, hm24, hm25, hm26, hm27, hm28, hm29, e19⟩ := tc_main hT15
    refine w_get e56_16 e19 rfl ?_
    refine w_ldA e56_19 (fun _ => rfl) rfl ?_
    obtain ⟨hn31, e30⟩ := tc_places hT15
    refine w_cv e56_20 (by decide) rfl e30 rfl (Nat.le_of_ble_eq_true rfl) (Nat.le_of_ble_eq_true rfl) (Nat.le_of_ble_eq_true rfl) (by decide) (by decide) (c13 hT15 h17) (fun o32 v33 hq34 => ?_)
    obtain ⟨rfl, l36, rfl⟩ := hq34
    exact w_rl e56_23 rfl ⟨hT15, _, rfl⟩
set_option maxRecDepth 100000 in
set_option maxHeartbeats 4000000 in
theorem c57_L {θ : tc_S} {v0 : (Bool × Bool) × vm_H} (hz : v0.1.1 = false) {i1 : Int} (hi_1 : -2147483648 ≤ i1 ∧ i1 < 2147483648) : ∀ N : Nat, (∀ (vh : vm_H) (y2 : Int64) (x4 : Int) (x5 : Int), (tc θ v0 vh) → (-2147483648 ≤ x4 ∧ x4 < 2147483648) → (0 ≤ x5 ∧ x5 ≤ 200) → ((200 - x5 : Int).toNat < N) → vm_Wp 3 92 57 37 [some (.ref 1), some (.int (vz i1)), some (.long y2), none, some (.int (vz x4)), some (.int (vz x5)), none] [] vh (vq_P 57 (fun r v1 => (tc θ v0 v1) ∧ ∃ q : Int64, r = some (.long q)))) := by
  intro N
  induction N with
  | zero => exact (by intros; omega)
  | succ N ih =>
    ·
      intro vh y2 x4 x5 hT hx4 hx5 hN
      have hok : (0 ≤ θ.1 ∧ θ.1 ≤ 8) ∧ (0 ≤ θ.2.1 ∧ θ.2.1 ≤ 16) ∧ (-2147483648 ≤ θ.2.2.2.1 ∧ θ.2.2.2.1 < 2147483648) ∧ (0 ≤ θ.2.2.2.2 ∧ θ.2.2.2.2 ≤ 8) := hT.1
      refine w_ldI e57_37 (fun _ => rfl) rfl ?_
      refine w_kS e57_39 rfl ?_
      refine w_ic e57_42 (by omega) (by omega) (fun (h33 : 200 ≤ x5) => ?_) (fun (h33 : x5 < 200) => ?_)
      ·
        refine w_ldL e57_178 (fun _ => rfl) rfl ?_
        exact w_rl e57_179 rfl ⟨hT, _, rfl⟩
      ·
        refine w_ldA e57_45 (fun _ => rfl) rfl ?_
        obtain ⟨m35, m36, m37, m38, hm39, hm40, hm41, hm42, hm43, hm44, e34⟩ := tc_main hT
        refine w_get e57_46 e34 rfl ?_
        refine w_ldI e57_49 (fun _ => rfl) rfl ?_
        refine w_ldA e57_51 (fun _ => rfl) rfl ?_
        refine w_get e57_52 e34 rfl ?_
        obtain ⟨s46, hs47, e45⟩ := tc_tri hT
        refine w_cv e57_55 (by decide) rfl e45 rfl (Nat.le_of_ble_eq_true rfl) (Nat.le_of_ble_eq_true rfl) (Nat.le_of_ble_eq_true rfl) (by decide) (by decide) (c42 hT hx4 (rfl : ty 234 = 1)) (fun o48 v49 hq50 => ?_)
        obtain ⟨rfl, q52, h53, rfl⟩ := hq50
        refine w_stI (j := 4) (A1 := [some (.ref 1), some (.int (vz i1)), some (.long y2), none, some (.int (vz q52)), some (.int (vz x5)), none]) e57_58 (fun _ => rfl) (by decide) rfl ?_
        refine w_ldI e57_60 (fun _ => rfl) rfl ?_
        refine w_kI e57_62 ?_
        refine w_ic e57_63 (by omega) (by omega) (fun (h54 : q52 ≠ -1) => ?_) (fun (h54 : q52 = -1) => ?_)
        ·
          refine w_ldA e57_69 (fun _ => rfl) rfl ?_
          refine w_get e57_70 e34 rfl ?_
          refine w_get e57_73 e45 rfl ?_
          refine w_ldI e57_76 (fun _ => rfl) rfl ?_
          obtain ⟨f56, hf57, e55⟩ := tc_mem hT
          obtain ⟨a58, h59, h60⟩ := hf57 (q52).toNat (by omega)
          refine w_qld e57_78 e55 (by decide) (by omega) (by omega) (by decide) h59 ?_
          refine w_stA (j := 6) (A1 := [some (.ref 1), some (.int (vz i1)), some (.long y2), none, some (.int (vz q52)), some (.int (vz x5)), some (.ref a58)]) e57_79 (fun _ => rfl) (by decide) rfl ?_
          refine w_ldL e57_81 (fun _ => rfl) rfl ?_
          refine w_ldA e57_82 (fun _ => rfl) rfl ?_
          refine w_get e57_83 e34 rfl ?_
          refine w_ldA e57_86 (fun _ => rfl) rfl ?_
          obtain ⟨p62, d63, hp64, hd65, e61⟩ := tc_row hT h60
          refine w_get e57_88 e61 rfl ?_
          refine w_ldA e57_91 (fun _ => rfl) rfl ?_
          refine w_get e57_93 e61 rfl ?_
          refine w_ldA e57_96 (fun _ => rfl) rfl ?_
          refine w_get e57_98 e61 rfl ?_
          refine w_ldA e57_101 (fun _ => rfl) rfl ?_
          refine w_get e57_103 e61 rfl ?_
          obtain ⟨hn67, e66⟩ := tc_places hT
          refine w_cv e57_106 (by decide) rfl e66 rfl (Nat.le_of_ble_eq_true rfl) (Nat.le_of_ble_eq_true rfl) (Nat.le_of_ble_eq_true rfl) (by decide) (by decide) (c14 hT (ty_r h60) hp64 hd65 hd65) (fun o68 v69 hq70 => ?_)
          obtain ⟨rfl, l72, rfl⟩ := hq70
          refine w_oL e57_109 (fun _ => rfl) (fun l73 => ?_)
          refine w_stL (j := 2) (A1 := [some (.ref 1), some (.int (vz i1)), some (.long l73), none, some (.int (vz q52)), some (.int (vz x5)), some (.ref a58)]) e57_110 (fun _ => rfl) (by decide) rfl ?_
          refine w_ldI e57_111 (fun _ => rfl) rfl ?_
          refine w_ldI e57_113 (fun _ => rfl) rfl ?_
          refine w_ic e57_114 (by omega) hi_1 (fun (h74 : q52 ≠ i1) => ?_) (fun (h74 : q52 = i1) => ?_)
          ·
            refine w_ldA e57_153 (fun _ => rfl) rfl ?_
            refine w_get e57_154 e34 rfl ?_
            refine w_ldA e57_157 (fun _ => rfl) rfl ?_
            refine w_get e57_158 e34 rfl ?_
            refine w_ldA e57_161 (fun _ => rfl) rfl ?_
            obtain ⟨k76, k77, k78, k79, s81, hk80, hs82, e75⟩ := tc_stp hT
            refine w_cv e57_163 (by decide) rfl e75 rfl (Nat.le_of_ble_eq_true rfl) (Nat.le_of_ble_eq_true rfl) (Nat.le_of_ble_eq_true rfl) (by decide) (by decide) (c32 (tc_fz hT) (rfl : ty 234 = 1) (Or.inr (by decide)) h60) (fun o83 v84 hq85 => ?_)
            obtain ⟨hT86, q87, h88, rfl⟩ := hq85
            have hT89 := tc_uf hT hT86
            have e90 := (tc_k1 hT86).trans e34
            refine w_if e57_166 (by omega) (fun (h91 : q87 ≠ 0) => ?_) (fun (h91 : q87 = 0) => ?_)
            ·
              refine w_iinc (A1 := [some (.ref 1), some (.int (vz i1)), some (.long l73), none, some (.int (vz q52)), some (.int (vz (x5 + 1))), some (.ref a58)]) e57_172 rfl (by decide) rfl ?_
              refine w_x e57_175 (fun _ => rfl) ?_
              exact w_sub (A1 := [some (.ref 1), some (.int (vz i1)), some (.long l73), none, some (.int (vz q52)), some (.int (vz (x5 + 1))), none]) (And.intro rfl (And.intro rfl (And.intro rfl (And.intro rfl (And.intro rfl trivial))))) ((ih) v84 l73 q52 (x5 + 1) hT89 (by omega) (by omega) (by omega))
            ·
              refine w_x e57_169 (fun _ => rfl) ?_
              refine w_ldL e57_178 (fun _ => rfl) rfl ?_
              exact w_rl e57_179 rfl ⟨hT89, _, rfl⟩
          ·
            refine w_ldL e57_117 (fun _ => rfl) rfl ?_
            refine w_ldA e57_118 (fun _ => rfl) rfl ?_
            refine w_get e57_119 e34 rfl ?_
            refine w_ldA e57_122 (fun _ => rfl) rfl ?_
            refine w_get e57_123 e34 rfl ?_
            refine w_ldA e57_126 (fun _ => rfl) rfl ?_
            refine w_get e57_128 e61 rfl ?_
            refine w_ldA e57_131 (fun _ => rfl) rfl ?_
            refine w_get e57_132 e34 rfl ?_
            refine w_ldA e57_135 (fun _ => rfl) rfl ?_
            refine w_get e57_137 e61 rfl ?_
            obtain ⟨c93, hc94, e92⟩ := tc_poly hT (rfl : ty 234 = 1)
            refine w_cv e57_140 (by decide) rfl e92 rfl (Nat.le_of_ble_eq_true rfl) (Nat.le_of_ble_eq_true rfl) (Nat.le_of_ble_eq_true rfl) (by decide) (by decide) (c22 hT (rfl : ty 234 = 1) hp64) (fun o95 v96 hq97 => ?_)
            obtain ⟨rfl, q99, h100, rfl⟩ := hq97
            refine w_ldA e57_143 (fun _ => rfl) rfl ?_
            refine w_get e57_145 e61 rfl ?_
            refine w_cv e57_148 (by decide) rfl e66 rfl (Nat.le_of_ble_eq_true rfl) (Nat.le_of_ble_eq_true rfl) (Nat.le_of_ble_eq_true rfl) (by decide) (by decide) (c14 hT (rfl : ty 234 = 1) hp64 h100 hd65) (fun o101 v102 hq103 => ?_)
            obtain ⟨rfl, l105, rfl⟩ := hq103
            refine w_oL e57_151 (fun _ => rfl) (fun l106 => ?_)
            refine w_stL (j := 2) (A1 := [some (.ref 1), some (.int (vz i1)), some (.long l106), none, some (.int (vz q52)), some (.int (vz x5)), some (.ref a58)]) e57_152 (fun _ => rfl) (by decide) rfl ?_
            refine w_ldA e57_153 (fun _ => rfl) rfl ?_
            refine w_get e57_154 e34 rfl ?_
            refine w_ldA e57_157 (fun _ => rfl) rfl ?_
            refine w_get e57_158 e34 rfl ?_
            refine w_ldA e57_161 (fun _ => rfl) rfl ?_
            obtain ⟨k108, k109, k110, k111, s113, hk112, hs114, e107⟩ := tc_stp hT
            refine w_cv e57_163 (by decide) rfl e107 rfl (Nat.le_of_ble_eq_true rfl) (Nat.le_of_ble_eq_true rfl) (Nat.le_of_ble_eq_true rfl) (by decide) (by decide) (c32 (tc_fz hT) (rfl : ty 234 = 1) (Or.inr (by decide)) h60) (fun o115 v116 hq117 => ?_)
            obtain ⟨hT118, q119, h120, rfl⟩ := hq117
            have hT121 := tc_uf hT hT118
            have e122 := (tc_k1 hT118).trans e34
            refine w_if e57_166 (by omega) (fun (h123 : q119 ≠ 0) => ?_) (fun (h123 : q119 = 0) => ?_)
            ·
              refine w_iinc (A1 := [some (.ref 1), some (.int (vz i1)), some (.long l106), none, some (.int (vz q52)), some (.int (vz (x5 + 1))), some (.ref a58)]) e57_172 rfl (by decide) rfl ?_
              refine w_x e57_175 (fun _ => rfl) ?_
              exact w_sub (A1 := [some (.ref 1), some (.int (vz i1)), some (.long l106), none, some (.int (vz q52)), some (.int (vz (x5 + 1))), none]) (And.intro rfl (And.intro rfl (And.intro rfl (And.intro rfl (And.intro rfl trivial))))) ((ih) v116 l106 q52 (x5 + 1) hT121 (by omega) (by omega) (by omega))
            ·
              refine w_x e57_169 (fun _ => rfl) ?_
              refine w_ldL e57_178 (fun _ => rfl) rfl ?_
              exact w_rl e57_179 rfl ⟨hT121, _, rfl⟩
        ·
          refine w_x e57_66 (fun _ => rfl) ?_
          refine w_ldL e57_178 (fun _ => rfl) rfl ?_
          exact w_rl e57_179 rfl ⟨hT, _, rfl⟩
set_option maxRecDepth 100000 in
set_option maxHeartbeats 4000000 in
theorem c57 {θ : tc_S} {v0 : (Bool × Bool) × vm_H} {vh : vm_H} (hz : v0.1.1 = false) (hT : tc θ v0 vh) {i1 : Int} (hi_1 : -2147483648 ≤ i1 ∧ i1 < 2147483648) : vm_Rp 3 92 57 [.ref 1, .int (vz i1)] vh (fun r v1 => (tc θ v0 v1) ∧ ∃ q : Int64, r = some (.long q)) := by
  have hok : (0 ≤ θ.1 ∧ θ.1 ≤ 8) ∧ (0 ≤ θ.2.1 ∧ θ.2.1 ≤ 16) ∧ (-2147483648 ≤ θ.2.2.2.1 ∧ θ.2.2.2.1 < 2147483648) ∧ (0 ≤ θ.2.2.2.2 ∧ θ.2.2.2.2 ≤ 8) := hT.1
  refine w_in (m := 5) ?_
  show vm_Wp _ _ _ 0 [some (.ref 1), some (.int (vz i1)), none, none, none, none, none] [] _ _
  refine w_ldA e57_0 (fun _ => rfl) rfl ?_
  refine w_ldI e57_1 (fun _ => rfl) rfl ?_
  obtain ⟨m2, m3, m4, m5, hm6, hm7, hm8, hm9, hm10, hm11, e1⟩ := tc_main hT
  refine w_cv e57_2 (by decide) rfl e1 rfl (Nat.le_of_ble_eq_true rfl) (Nat.le_of_ble_eq_true rfl) (Nat.le_of_ble_eq_true rfl) (by decide) (by decide) (c60 hz hT hi_1) (fun o12 v13 hq14 => ?_)
  obtain ⟨rfl, q16, h17, rfl⟩ := hq14
  refine w_if e57_5 (by omega) (fun (h18 : q16 ≠ 0) => ?_) (fun (h18 : q16 = 0) => ?_)
  ·
    refine w_ldA e57_10 (fun _ => rfl) rfl ?_
    refine w_get e57_11 e1 rfl ?_
    refine w_ldA e57_14 (fun _ => rfl) rfl ?_
    refine w_get e57_15 e1 rfl ?_
    obtain ⟨c20, hc21, e19⟩ := tc_poly hT (rfl : ty 234 = 1)
    refine w_cv e57_18 (by decide) rfl e19 rfl (Nat.le_of_ble_eq_true rfl) (Nat.le_of_ble_eq_true rfl) (Nat.le_of_ble_eq_true rfl) (by decide) (by decide) (c19 (tc_fz hT) (rfl : ty 234 = 1) (Or.inr (by decide)) (rfl : ty 230 = 1)) (fun o22 v23 hq24 => ?_)
    obtain ⟨hT25, rfl⟩ := hq24
    have hT26 := tc_uf hT hT25
    have e27 := (tc_k1 hT25).trans e1
    refine w_oL e57_21 (fun _ => rfl) (fun l28 => ?_)
    refine w_stL (j := 2) (A1 := [some (.ref 1), some (.int (vz i1)), some (.long l28), none, none, none, none]) e57_22 (fun _ => rfl) (by decide) rfl ?_
    refine w_ldA e57_23 (fun _ => rfl) rfl ?_
    refine w_get e57_24 e27 rfl ?_
    obtain ⟨s30, hs31, e29⟩ := tc_tri hT26
    refine w_get e57_27 e29 rfl ?_
    refine w_kI e57_30 ?_
    refine w_isub e57_31 ?_
    refine w_stI (j := 4) (A1 := [some (.ref 1), some (.int (vz i1)), some (.long l28), none, some (.int (vz (s30 - 1))), none, none]) e57_32 (fun _ => rfl) (by decide) rfl ?_
    refine w_kI e57_34 ?_
    refine w_stI (j := 5) (A1 := [some (.ref 1), some (.int (vz i1)), some (.long l28), none, some (.int (vz (s30 - 1))), some (.int (vz 0)), none]) e57_35 (fun _ => rfl) (by decide) rfl ?_
    exact w_sub (A1 := [some (.ref 1), some (.int (vz i1)), some (.long l28), none, some (.int (vz (s30 - 1))), some (.int (vz 0)), none]) (And.intro rfl (And.intro rfl (And.intro rfl (And.intro rfl (And.intro rfl trivial))))) (((c57_L (θ := θ) (i1 := i1) (v0 := v0) hz hi_1 _)) v23 l28 (s30 - 1) 0 hT26 (by omega) (by omega) (Nat.lt_succ_self _))
  ·
    refine w_oL e57_8 (fun _ => rfl) (fun l32 => ?_)
    exact w_rl e57_9 rfl ⟨hT, _, rfl⟩
