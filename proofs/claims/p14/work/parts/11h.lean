set_option maxRecDepth 100000 in
set_option maxHeartbeats 4000000 in
theorem c3 {θ : tc_S} {v0 : (Bool × Bool) × vm_H} {vh : vm_H} (hT : tc θ v0 vh) (hu : v0.1.2 = false) {i1 : Int} (hi_1 : 0 ≤ i1 ∧ i1 ≤ 1) : vm_Rp 0 0 3 [.ref 2, .int (vz i1)] vh (fun r v1 => (∃ θ1 : tc_S, θ1.2.2.1 = θ.2.2.1 ∧ (((θ1.1 = θ.1 ∧ θ.1 = 8) ∨ (θ1.1 = θ.1 + 1 ∧ θ.1 < 8)) ∧ θ1.2.1 = θ.2.1) ∧ tc θ1 v0 v1) ∧ ∃ q : Int, ((q = -1 ∧ θ.1 = 8) ∨ (q = θ.1 ∧ θ.1 < 8)) ∧ r = some (.int (vz q))) := by
  have hok : (0 ≤ θ.1 ∧ θ.1 ≤ 8) ∧ (0 ≤ θ.2.1 ∧ θ.2.1 ≤ 16) ∧ (-2147483648 ≤ θ.2.2.2.1 ∧ θ.2.2.2.1 < 2147483648) ∧ (0 ≤ θ.2.2.2.2 ∧ θ.2.2.2.2 ≤ 8) := hT.1
  refine w_in (m := 0) ?_
  show vm_Wp _ _ _ 0 [some (.ref 2), some (.int (vz i1))] [] _ _
  refine w_ldA e3_0 (fun _ => rfl) rfl ?_
  obtain ⟨hn2, e1⟩ := tc_places hT
  refine w_get e3_1 e1 rfl ?_
  refine w_kB e3_4 rfl ?_
  refine w_ic e3_6 (by omega) (by omega) (fun (h3 : θ.1 < 8) => ?_) (fun (h3 : 8 ≤ θ.1) => ?_)
  ·
    refine w_ldA e3_11 (fun _ => rfl) rfl ?_
    refine w_get e3_12 e1 rfl ?_
    refine w_ldA e3_15 (fun _ => rfl) rfl ?_
    refine w_get e3_16 e1 rfl ?_
    refine w_ldI e3_19 (fun _ => rfl) rfl ?_
    obtain ⟨f5, e4⟩ := tc_free hT
    refine w_zst e3_20 e4 (by omega) (by omega) (by decide) (fun v8 b6 h7 => ?_)
    have hT9 := ts_free hT b6 h7
    have e10 := (b6.2 2 (by decide)).trans e1
    refine w_ldA e3_21 (fun _ => rfl) rfl ?_
    refine w_get e3_22 e10 rfl ?_
    refine w_ldA e3_25 (fun _ => rfl) rfl ?_
    refine w_get e3_26 e10 rfl ?_
    refine w_ldA e3_29 (fun _ => rfl) rfl ?_
    refine w_get e3_30 e10 rfl ?_
    obtain ⟨f12, hf13, e11⟩ := tc_vars hT9
    refine w_ast e3_33 e11 (by omega) (by omega) (by decide) (by decide) (fun v16 b14 h15 => ?_)
    have hT17 := ts_vars hu hT9 hf13 (by omega) b14 h15
    have e18 := (b14.2 2 (by decide)).trans e10
    refine w_ldA e3_34 (fun _ => rfl) rfl ?_
    refine w_x e3_35 (fun _ => rfl) ?_
    refine w_get e3_36 e18 rfl ?_
    refine w_kI e3_39 ?_
    refine w_iadd e3_40 ?_
    refine w_put e3_41 e18 (Nat.le_of_ble_eq_true rfl) rfl (fun v21 b19 h20 => ?_)
    have h20 : vm_at v21 2 = some (.inr (0, [.int (vz (θ.1 + 1)), .ref 3, .ref 4, .ref 5])) := h20
    obtain ⟨θ23, hy24, hr25, hT22⟩ := ts_count hT17 (by omega) b19 h20
    have hok26 : (0 ≤ θ23.1 ∧ θ23.1 ≤ 8) ∧ (0 ≤ θ23.2.1 ∧ θ23.2.1 ≤ 16) ∧ (-2147483648 ≤ θ23.2.2.2.1 ∧ θ23.2.2.2.1 < 2147483648) ∧ (0 ≤ θ23.2.2.2.2 ∧ θ23.2.2.2.2 ≤ 8) := hT22.1
    refine w_ldA e3_44 (fun _ => rfl) rfl ?_
    obtain ⟨hn28, e27⟩ := tc_places hT22
    refine w_get e3_45 e27 rfl ?_
    refine w_kI e3_48 ?_
    refine w_isub e3_49 ?_
    exact w_ri e3_50 rfl ⟨⟨θ23, hy24, (by omega), hT22⟩, θ23.1 - 1, (by omega), rfl⟩
  ·
    refine w_kI e3_9 ?_
    exact w_ri e3_10 rfl ⟨⟨θ, rfl, (by omega), hT⟩, -1, (by omega), rfl⟩
set_option maxRecDepth 100000 in
set_option maxHeartbeats 4000000 in
theorem c44 {θ : tc_S} {v0 : (Bool × Bool) × vm_H} {vh : vm_H} (hz : v0.1.1 = false) (hT : tc θ v0 vh) (hu : v0.1.2 = false) {i1 : Int} (hi_1 : 0 ≤ i1 ∧ i1 ≤ 1) : vm_Rp 2 43 44 [.ref 1, .int (vz i1)] vh (fun r v1 => (∃ θ1 : tc_S, θ1.2.2.1 = θ.2.2.1 ∧ (((θ1.1 = θ.1 ∧ θ.1 = 8) ∨ (θ1.1 = θ.1 + 1 ∧ θ.1 < 8)) ∧ θ1.2.1 = θ.2.1) ∧ tc θ1 v0 v1) ∧ ∃ q : Int, ((q = -1 ∧ θ.1 = 8) ∨ (q = θ.1 ∧ θ.1 < 8)) ∧ r = some (.int (vz q))) := by
  have hok : (0 ≤ θ.1 ∧ θ.1 ≤ 8) ∧ (0 ≤ θ.2.1 ∧ θ.2.1 ≤ 16) ∧ (-2147483648 ≤ θ.2.2.2.1 ∧ θ.2.2.2.1 < 2147483648) ∧ (0 ≤ θ.2.2.2.2 ∧ θ.2.2.2.2 ≤ 8) := hT.1
  refine w_in (m := 1) ?_
  show vm_Wp _ _ _ 0 [some (.ref 1), some (.int (vz i1)), none] [] _ _
  refine w_ldA e44_0 (fun _ => rfl) rfl ?_
  obtain ⟨m2, m3, m4, m5, hm6, hm7, hm8, hm9, hm10, hm11, e1⟩ := tc_main hT
  refine w_get e44_1 e1 rfl ?_
  refine w_ldI e44_4 (fun _ => rfl) rfl ?_
  obtain ⟨hn13, e12⟩ := tc_places hT
  refine w_cv e44_5 (by decide) rfl e12 rfl (Nat.le_of_ble_eq_true rfl) (Nat.le_of_ble_eq_true rfl) (Nat.le_of_ble_eq_true rfl) (by decide) (by decide) (c3 (tc_fz hT) hu (by omega)) (fun o14 v15 hq16 => ?_)
  obtain ⟨⟨θ18, hy19, hr20, hT17⟩, q22, h23, rfl⟩ := hq16
  have hok21 : (0 ≤ θ18.1 ∧ θ18.1 ≤ 8) ∧ (0 ≤ θ18.2.1 ∧ θ18.2.1 ≤ 16) ∧ (-2147483648 ≤ θ18.2.2.2.1 ∧ θ18.2.2.2.1 < 2147483648) ∧ (0 ≤ θ18.2.2.2.2 ∧ θ18.2.2.2.2 ≤ 8) := hT17.1
  have hT24 := tc_uf hT hT17
  have e25 := (tc_k1 hT17).trans e1
  refine w_stI (j := 2) (A1 := [some (.ref 1), some (.int (vz i1)), some (.int (vz q22))]) e44_8 (fun _ => rfl) (by decide) rfl ?_
  refine w_ldI e44_9 (fun _ => rfl) rfl ?_
  refine w_kI e44_10 ?_
  refine w_ic e44_11 (by omega) (by omega) (fun (h26 : q22 = -1) => ?_) (fun (h26 : q22 ≠ -1) => ?_)
  ·
    refine w_ldI e44_18 (fun _ => rfl) rfl ?_
    exact w_ri e44_19 rfl ⟨⟨θ18, hy19, (by omega), hT24⟩, q22, (by omega), rfl⟩
  ·
    refine w_ldA e44_14 (fun _ => rfl) rfl ?_
    refine w_cv e44_15 (by decide) rfl e25 rfl (Nat.le_of_ble_eq_true rfl) (Nat.le_of_ble_eq_true rfl) (Nat.le_of_ble_eq_true rfl) (by decide) (by decide) (c63 hz hT24) (fun o27 v28 hq29 => ?_)
    obtain ⟨hT30, rfl⟩ := hq29
    refine w_ldI e44_18 (fun _ => rfl) rfl ?_
    exact w_ri e44_19 rfl ⟨⟨θ18, hy19, (by omega), hT30⟩, q22, (by omega), rfl⟩
set_option maxRecDepth 100000 in
set_option maxHeartbeats 4000000 in
theorem c46 {θ : tc_S} {v0 : (Bool × Bool) × vm_H} {vh : vm_H} (hz : v0.1.1 = false) (hT : tc θ v0 vh) : vm_Rp 0 0 46 [.ref 1] vh (fun r v1 => (∃ θ1 : tc_S, θ1.2.2.1 = θ.2.2.1 ∧ (((θ1.2.1 = θ.2.1 ∧ θ.2.1 = 16) ∨ (θ1.2.1 = θ.2.1 + 1 ∧ θ.2.1 < 16)) ∧ θ1.1 = θ.1) ∧ tc θ1 v0 v1) ∧ ∃ q : Int, ((q = -1 ∧ θ.2.1 = 16) ∨ (q = θ.2.1 ∧ θ.2.1 < 16)) ∧ r = some (.int (vz q))) := by
  have hok : (0 ≤ θ.1 ∧ θ.1 ≤ 8) ∧ (0 ≤ θ.2.1 ∧ θ.2.1 ≤ 16) ∧ (-2147483648 ≤ θ.2.2.2.1 ∧ θ.2.2.2.1 < 2147483648) ∧ (0 ≤ θ.2.2.2.2 ∧ θ.2.2.2.2 ≤ 8) := hT.1
  refine w_in (m := 0) ?_
  show vm_Wp _ _ _ 0 [some (.ref 1)] [] _ _
  refine w_ldA e46_0 (fun _ => rfl) rfl ?_
  obtain ⟨m2, m3, m4, m5, hm6, hm7, hm8, hm9, hm10, hm11, e1⟩ := tc_main hT
  refine w_get e46_1 e1 rfl ?_
  refine w_kB e46_4 rfl ?_
  refine w_ic e46_6 (by omega) (by omega) (fun (h12 : θ.2.1 < 16) => ?_) (fun (h12 : 16 ≤ θ.2.1) => ?_)
  ·
    refine w_ldA e46_11 (fun _ => rfl) rfl ?_
    refine w_x e46_12 (fun _ => rfl) ?_
    refine w_get e46_13 e1 rfl ?_
    refine w_kI e46_16 ?_
    refine w_iadd e46_17 ?_
    refine w_put e46_18 e1 (Nat.le_of_ble_eq_true rfl) rfl (fun v15 b13 h14 => ?_)
    have h14 : vm_at v15 1 = some (.inr (5, [.ref 2, .ref 6, .ref 55, .int (vz (θ.2.1 + 1)), .ref 56, .int (vz m2), .ref 217, .ref 219, .ref 224, .ref 227, .ref 230, .ref 233, .ref 234, .ref 237, .int (vz m3), .int (vz θ.2.2.2.1), .int (vz m4), .int (vz m5)])) := h14
    obtain ⟨θ17, hy18, hr19, hT16⟩ := ts_pc hz hT (by omega) (by omega) b13 h14
    have hok20 : (0 ≤ θ17.1 ∧ θ17.1 ≤ 8) ∧ (0 ≤ θ17.2.1 ∧ θ17.2.1 ≤ 16) ∧ (-2147483648 ≤ θ17.2.2.2.1 ∧ θ17.2.2.2.1 < 2147483648) ∧ (0 ≤ θ17.2.2.2.2 ∧ θ17.2.2.2.2 ≤ 8) := hT16.1
    refine w_ldA e46_21 (fun _ => rfl) rfl ?_
    obtain ⟨m22, m23, m24, m25, hm26, hm27, hm28, hm29, hm30, hm31, e21⟩ := tc_main hT16
    refine w_get e46_22 e21 rfl ?_
    refine w_kI e46_25 ?_
    refine w_isub e46_26 ?_
    exact w_ri e46_27 rfl ⟨⟨θ17, hy18, (by omega), hT16⟩, θ17.2.1 - 1, (by omega), rfl⟩
  ·
    refine w_kI e46_9 ?_
    exact w_ri e46_10 rfl ⟨⟨θ, rfl, (by omega), hT⟩, -1, (by omega), rfl⟩
set_option maxRecDepth 100000 in
set_option maxHeartbeats 4000000 in
theorem c38_L {θ : tc_S} {v0 : (Bool × Bool) × vm_H} {i2 : Int} (hi_2 : 0 ≤ i2 ∧ i2 ≤ 40) : ∀ N : Nat, (∀ (vh : vm_H) (θ1 : tc_S) (s0 : Int), (tc θ1 v0 vh) → (θ1.2.2.1 = θ.2.2.1) → (θ1.1 = θ.1 ∧ θ1.2.1 = θ.2.1 ∧ θ1.2.2.2.1 = θ.2.2.2.1) → (vm_at vh 217 = some (.inr (4, [.ref 218, .int (vz s0)]))) → (0 ≤ s0 ∧ s0 ≤ θ1.2.2.2.2) → ((8 - s0 : Int).toNat < N) → vm_Wp 4 99 38 5 [some (.ref 217), some (.ref 56), some (.int (vz i2)), none] [] vh (vq_P 38 (fun r v1 => (∃ θ1 : tc_S, θ1.2.2.1 = θ.2.2.1 ∧ (θ1.1 = θ.1 ∧ θ1.2.1 = θ.2.1 ∧ θ1.2.2.2.1 = θ.2.2.2.1) ∧ tc θ1 v0 v1) ∧ r = none))) := by
  intro N
  induction N with
  | zero => exact (by intros; omega)
  | succ N ih =>
    ·
      intro vh θ1 s0 hT hyq hrq hc_0 hi0 hN
      have hok : (0 ≤ θ1.1 ∧ θ1.1 ≤ 8) ∧ (0 ≤ θ1.2.1 ∧ θ1.2.1 ≤ 16) ∧ (-2147483648 ≤ θ1.2.2.2.1 ∧ θ1.2.2.2.1 < 2147483648) ∧ (0 ≤ θ1.2.2.2.2 ∧ θ1.2.2.2.2 ≤ 8) := hT.1
      refine w_ldA e38_5 (fun _ => rfl) rfl ?_
      refine w_get e38_6 hc_0 rfl ?_
      refine w_kB e38_9 rfl ?_
      refine w_ic e38_11 (by omega) (by omega) (fun (h8 : 8 ≤ s0) => ?_) (fun (h8 : s0 < 8) => ?_)
      ·
        exact w_rv e38_49 rfl ⟨⟨θ1, hyq, (by omega), hT⟩, rfl⟩
      ·
        refine w_ldA e38_14 (fun _ => rfl) rfl ?_
        refine w_ldA e38_15 (fun _ => rfl) rfl ?_
        refine w_ldI e38_16 (fun _ => rfl) rfl ?_
        refine w_cv e38_17 (by decide) rfl hc_0 rfl (Nat.le_of_ble_eq_true rfl) (Nat.le_of_ble_eq_true rfl) (Nat.le_of_ble_eq_true rfl) (by decide) (by decide) (c39 hT (by omega)) (fun o9 v10 hq11 => ?_)
        obtain ⟨rfl, rfl | ⟨a13, h14, rfl⟩⟩ := hq11
        ·
          refine w_stN (j := 3) (A1 := [some (.ref 217), some (.ref 56), some (.int (vz i2)), some (.null)]) e38_20 (fun _ => rfl) (by decide) rfl ?_
          refine w_ldN e38_21 (fun _ => rfl) rfl ?_
          refine w_x e38_22 (fun _ => rfl) ?_
          exact w_rv e38_25 rfl ⟨⟨θ1, hyq, (by omega), hT⟩, rfl⟩
        ·
          refine w_stA (j := 3) (A1 := [some (.ref 217), some (.ref 56), some (.int (vz i2)), some (.ref a13)]) e38_20 (fun _ => rfl) (by decide) rfl ?_
          refine w_ldA e38_21 (fun _ => rfl) rfl ?_
          refine w_x e38_22 (fun _ => rfl) ?_
          refine w_ldA e38_26 (fun _ => rfl) rfl ?_
          refine w_get e38_27 hc_0 rfl ?_
          refine w_ldA e38_30 (fun _ => rfl) rfl ?_
          refine w_get e38_31 hc_0 rfl ?_
          refine w_ldA e38_34 (fun _ => rfl) rfl ?_
          obtain ⟨f16, hf17, e15⟩ := tc_mem hT
          obtain ⟨p23, d24, hp25, hd26, e22⟩ := tc_row hT h14
          refine w_qst e38_35 e15 e22 rfl (by omega) (by omega) (by decide) (fun v20 b18 h19 => ?_)
          obtain ⟨θ27, hy28, hr29, hT21⟩ := ts_mem hT hf17 (by omega) h14 b18 h19
          have hok30 : (0 ≤ θ27.1 ∧ θ27.1 ≤ 8) ∧ (0 ≤ θ27.2.1 ∧ θ27.2.1 ≤ 16) ∧ (-2147483648 ≤ θ27.2.2.2.1 ∧ θ27.2.2.2.1 < 2147483648) ∧ (0 ≤ θ27.2.2.2.2 ∧ θ27.2.2.2.2 ≤ 8) := hT21.1
          have e31 := (b18.2 217 (by decide)).trans hc_0
          have e32 := (b18.2 a13 (ty_ne h14 (rfl : ty 218 = 12) (by decide))).trans e22
          refine w_ldA e38_36 (fun _ => rfl) rfl ?_
          refine w_x e38_37 (fun _ => rfl) ?_
          refine w_get e38_38 e31 rfl ?_
          refine w_kI e38_41 ?_
          refine w_iadd e38_42 ?_
          refine w_put e38_43 e31 (Nat.le_of_ble_eq_true rfl) rfl (fun v35 b33 h34 => ?_)
          have h34 : vm_at v35 217 = some (.inr (4, [.ref 218, .int (vz (s0 + 1))])) := h34
          have hT36 := ts_tri hT21 (by omega) b33 h34
          have e37 := (b33.2 a13 (ty_ne h14 (rfl : ty 217 = 11) (by decide))).trans e32
          refine w_x e38_46 (fun _ => rfl) ?_
          exact w_sub (A1 := [some (.ref 217), some (.ref 56), some (.int (vz i2)), none]) (And.intro rfl (And.intro rfl (And.intro rfl trivial))) ((ih) v35 θ27 (s0 + 1) hT36 (hy28.trans hyq) (by omega) h34 (by omega) (by omega))
set_option maxRecDepth 100000 in
set_option maxHeartbeats 4000000 in
theorem c38 {θ : tc_S} {v0 : (Bool × Bool) × vm_H} {vh : vm_H} (hT : tc θ v0 vh) {i2 : Int} (hi_2 : 0 ≤ i2 ∧ i2 ≤ 40) : vm_Rp 4 99 38 [.ref 217, .ref 56, .int (vz i2)] vh (fun r v1 => (∃ θ1 : tc_S, θ1.2.2.1 = θ.2.2.1 ∧ (θ1.1 = θ.1 ∧ θ1.2.1 = θ.2.1 ∧ θ1.2.2.2.1 = θ.2.2.2.1) ∧ tc θ1 v0 v1) ∧ r = none) := by
  have hok : (0 ≤ θ.1 ∧ θ.1 ≤ 8) ∧ (0 ≤ θ.2.1 ∧ θ.2.1 ≤ 16) ∧ (-2147483648 ≤ θ.2.2.2.1 ∧ θ.2.2.2.1 < 2147483648) ∧ (0 ≤ θ.2.2.2.2 ∧ θ.2.2.2.2 ≤ 8) := hT.1
  refine w_in (m := 1) ?_
  show vm_Wp _ _ _ 0 [some (.ref 217), some (.ref 56), some (.int (vz i2)), none] [] _ _
  refine w_ldA e38_0 (fun _ => rfl) rfl ?_
  refine w_kI e38_1 ?_
  obtain ⟨s2, hs3, e1⟩ := tc_tri hT
  refine w_put e38_2 e1 (Nat.le_of_ble_eq_true rfl) rfl (fun v6 b4 h5 => ?_)
  have h5 : vm_at v6 217 = some (.inr (4, [.ref 218, .int (vz 0)])) := h5
  have hT7 := ts_tri hT (by omega) b4 h5
  exact w_sub (A1 := [some (.ref 217), some (.ref 56), some (.int (vz i2)), none]) (And.intro rfl (And.intro rfl (And.intro rfl trivial))) (((c38_L (θ := θ) (i2 := i2) (v0 := v0) hi_2 _)) v6 θ 0 hT7 rfl (by omega) h5 (by omega) (Nat.lt_succ_self _))
set_option maxRecDepth 100000 in
set_option maxHeartbeats 4000000 in
theorem c69_L {θ : tc_S} {v0 : (Bool × Bool) × vm_H} (hz : v0.1.1 = false) : ∀ N : Nat, (∀ (vh : vm_H) (θ1 : tc_S) (x1 : Int) (x2 : Int), (tc θ1 v0 vh) → (θ1.2.2.1 = θ.2.2.1) → (θ1.1 = θ.1 ∧ θ1.2.1 = θ.2.1 ∧ θ1.2.2.2.1 = θ.2.2.2.1) → (0 ≤ x1 ∧ x1 ≤ 40) → (0 ≤ x2 ∧ x2 ≤ 40) → ((40 - x2 : Int).toNat < N) → vm_Wp 5 137 69 19 [some (.ref 1), some (.int (vz x1)), some (.int (vz x2)), none] [] vh (vq_P 69 (fun r v1 => (∃ θ1 : tc_S, θ1.2.2.1 = θ.2.2.1 ∧ (θ1.1 = θ.1 ∧ θ1.2.1 = θ.2.1 ∧ θ1.2.2.2.1 = θ.2.2.2.1) ∧ tc θ1 v0 v1) ∧ ∃ q : Int, (-2147483648 ≤ q ∧ q < 2147483648) ∧ r = some (.int (vz q))))) := by
  intro N
  induction N with
  | zero => exact (by intros; omega)
  | succ N ih =>
    ·
      intro vh θ1 x1 x2 hT hyq hrq hx1 hx2 hN
      have hok : (0 ≤ θ1.1 ∧ θ1.1 ≤ 8) ∧ (0 ≤ θ1.2.1 ∧ θ1.2.1 ≤ 16) ∧ (-2147483648 ≤ θ1.2.2.2.1 ∧ θ1.2.2.2.1 < 2147483648) ∧ (0 ≤ θ1.2.2.2.2 ∧ θ1.2.2.2.2 ≤ 8) := hT.1
      refine w_ldI e69_19 (fun _ => rfl) rfl ?_
      refine w_ldI e69_20 (fun _ => rfl) rfl ?_
      refine w_ic e69_21 (by omega) (by omega) (fun (h25 : x1 ≤ x2) => ?_) (fun (h25 : x2 < x1) => ?_)
      ·
        refine w_ldA e69_67 (fun _ => rfl) rfl ?_
        obtain ⟨m27, m28, m29, m30, hm31, hm32, hm33, hm34, hm35, hm36, e26⟩ := tc_main hT
        refine w_get e69_68 e26 rfl ?_
        refine w_ldI e69_71 (fun _ => rfl) rfl ?_
        refine w_ic e69_72 (by omega) (by omega) (fun (h37 : m27 ≠ x1) => ?_) (fun (h37 : m27 = x1) => ?_)
        ·
          refine w_kI e69_79 ?_
          exact w_ri e69_80 rfl ⟨⟨θ1, hyq, (by omega), hT⟩, 3, (by omega), rfl⟩
        ·
          refine w_kI e69_75 ?_
          refine w_x e69_76 (fun _ => rfl) ?_
          exact w_ri e69_80 rfl ⟨⟨θ1, hyq, (by omega), hT⟩, 1, (by omega), rfl⟩
      ·
        refine w_ldA e69_24 (fun _ => rfl) rfl ?_
        obtain ⟨m39, m40, m41, m42, hm43, hm44, hm45, hm46, hm47, hm48, e38⟩ := tc_main hT
        refine w_get e69_25 e38 rfl ?_
        refine w_ldA e69_28 (fun _ => rfl) rfl ?_
        refine w_get e69_29 e38 rfl ?_
        refine w_ldI e69_32 (fun _ => rfl) rfl ?_
        obtain ⟨f50, hf51, e49⟩ := tc_rows hT
        obtain ⟨a52, h53, h54⟩ : ∃ b, f50 (x2).toNat = some b ∧ ty b = 3 := ⟨_, hf51 _ (by omega), ty_ri _ (by omega)⟩
        refine w_qld e69_33 e49 (by decide) (by omega) (by omega) (by decide) h53 ?_
        obtain ⟨s56, hs57, e55⟩ := tc_tri hT
        refine w_cv e69_34 (by decide) rfl e55 rfl (Nat.le_of_ble_eq_true rfl) (Nat.le_of_ble_eq_true rfl) (Nat.le_of_ble_eq_true rfl) (by decide) (by decide) (c41 hT h54) (fun o58 v59 hq60 => ?_)
        obtain ⟨rfl, q62, h63, rfl⟩ := hq60
        refine w_if e69_37 (by omega) (fun (h64 : q62 = 0) => ?_) (fun (h64 : q62 ≠ 0) => ?_)
        ·
          refine w_ldA e69_43 (fun _ => rfl) rfl ?_
          refine w_ldA e69_44 (fun _ => rfl) rfl ?_
          refine w_get e69_45 e38 rfl ?_
          refine w_ldI e69_48 (fun _ => rfl) rfl ?_
          obtain ⟨a65, h66, h67⟩ : ∃ b, f50 (x2).toNat = some b ∧ ty b = 3 := ⟨_, hf51 _ (by omega), ty_ri _ (by omega)⟩
          refine w_qld e69_49 e49 (by decide) (by omega) (by omega) (by decide) h66 ?_
          refine w_cv e69_50 (by decide) rfl e38 rfl (Nat.le_of_ble_eq_true rfl) (Nat.le_of_ble_eq_true rfl) (Nat.le_of_ble_eq_true rfl) (by decide) (by decide) (c70 hz hT h67) (fun o68 v69 hq70 => ?_)
          obtain ⟨hT71, q72, h73, rfl⟩ := hq70
          refine w_stI (j := 3) (A1 := [some (.ref 1), some (.int (vz x1)), some (.int (vz x2)), some (.int (vz q72))]) e69_53 (fun _ => rfl) (by decide) rfl ?_
          refine w_ldI e69_54 (fun _ => rfl) rfl ?_
          refine w_kI e69_55 ?_
          refine w_ic e69_56 h73 (by omega) (fun (h74 : q72 = 3) => ?_) (fun (h74 : q72 ≠ 3) => ?_)
          ·
            refine w_iinc (A1 := [some (.ref 1), some (.int (vz x1)), some (.int (vz (x2 + 1))), some (.int (vz q72))]) e69_61 rfl (by decide) rfl ?_
            refine w_x e69_64 (fun _ => rfl) ?_
            exact w_sub (A1 := [some (.ref 1), some (.int (vz x1)), some (.int (vz (x2 + 1))), none]) (And.intro rfl (And.intro rfl (And.intro rfl trivial))) ((ih) v69 θ1 x1 (x2 + 1) hT71 hyq (by omega) (by omega) (by omega) (by omega))
          ·
            refine w_ldI e69_59 (fun _ => rfl) rfl ?_
            exact w_ri e69_60 rfl ⟨⟨θ1, hyq, (by omega), hT71⟩, q72, h73, rfl⟩
        ·
          refine w_x e69_40 (fun _ => rfl) ?_
          refine w_iinc (A1 := [some (.ref 1), some (.int (vz x1)), some (.int (vz (x2 + 1))), none]) e69_61 rfl (by decide) rfl ?_
          refine w_x e69_64 (fun _ => rfl) ?_
          exact w_sub (A1 := [some (.ref 1), some (.int (vz x1)), some (.int (vz (x2 + 1))), none]) (And.intro rfl (And.intro rfl (And.intro rfl trivial))) ((ih) vh θ1 x1 (x2 + 1) hT hyq (by omega) (by omega) (by omega) (by omega))
set_option maxRecDepth 100000 in
set_option maxHeartbeats 4000000 in
theorem c69 {θ : tc_S} {v0 : (Bool × Bool) × vm_H} {vh : vm_H} (hz : v0.1.1 = false) (hT : tc θ v0 vh) : vm_Rp 5 137 69 [.ref 1] vh (fun r v1 => (∃ θ1 : tc_S, θ1.2.2.1 = θ.2.2.1 ∧ (θ1.1 = θ.1 ∧ θ1.2.1 = θ.2.1 ∧ θ1.2.2.2.1 = θ.2.2.2.1) ∧ tc θ1 v0 v1) ∧ ∃ q : Int, (-2147483648 ≤ q ∧ q < 2147483648) ∧ r = some (.int (vz q))) := by
  have hok : (0 ≤ θ.1 ∧ θ.1 ≤ 8) ∧ (0 ≤ θ.2.1 ∧ θ.2.1 ≤ 16) ∧ (-2147483648 ≤ θ.2.2.2.1 ∧ θ.2.2.2.1 < 2147483648) ∧ (0 ≤ θ.2.2.2.2 ∧ θ.2.2.2.2 ≤ 8) := hT.1
  refine w_in (m := 3) ?_
  show vm_Wp _ _ _ 0 [some (.ref 1), none, none, none] [] _ _
  refine w_ldA e69_0 (fun _ => rfl) rfl ?_
  obtain ⟨m2, m3, m4, m5, hm6, hm7, hm8, hm9, hm10, hm11, e1⟩ := tc_main hT
  refine w_get e69_1 e1 rfl ?_
  refine w_stI (j := 1) (A1 := [some (.ref 1), some (.int (vz m2)), none, none]) e69_4 (fun _ => rfl) (by decide) rfl ?_
  refine w_ldA e69_5 (fun _ => rfl) rfl ?_
  refine w_get e69_6 e1 rfl ?_
  refine w_ldA e69_9 (fun _ => rfl) rfl ?_
  refine w_get e69_10 e1 rfl ?_
  refine w_ldI e69_13 (fun _ => rfl) rfl ?_
  obtain ⟨s13, hs14, e12⟩ := tc_tri hT
  refine w_cv e69_14 (by decide) rfl e12 rfl (Nat.le_of_ble_eq_true rfl) (Nat.le_of_ble_eq_true rfl) (Nat.le_of_ble_eq_true rfl) (by decide) (by decide) (c38 (tc_fz hT) (by omega)) (fun o15 v16 hq17 => ?_)
  obtain ⟨⟨θ19, hy20, hr21, hT18⟩, rfl⟩ := hq17
  have hok22 : (0 ≤ θ19.1 ∧ θ19.1 ≤ 8) ∧ (0 ≤ θ19.2.1 ∧ θ19.2.1 ≤ 16) ∧ (-2147483648 ≤ θ19.2.2.2.1 ∧ θ19.2.2.2.1 < 2147483648) ∧ (0 ≤ θ19.2.2.2.2 ∧ θ19.2.2.2.2 ≤ 8) := hT18.1
  have hT23 := tc_uf hT hT18
  have e24 := (tc_k1 hT18).trans e1
  refine w_kI e69_17 ?_
  refine w_stI (j := 2) (A1 := [some (.ref 1), some (.int (vz m2)), some (.int (vz 0)), none]) e69_18 (fun _ => rfl) (by decide) rfl ?_
  exact w_sub (A1 := [some (.ref 1), some (.int (vz m2)), some (.int (vz 0)), none]) (And.intro rfl (And.intro rfl (And.intro rfl trivial))) (((c69_L (θ := θ) (v0 := v0) hz _)) v16 θ19 m2 0 hT23 hy20 (by omega) (by omega) (by omega) (Nat.lt_succ_self _))
set_option maxRecDepth 100000 in
set_option maxHeartbeats 4000000 in
theorem c49_L {θ : tc_S} {v0 : (Bool × Bool) × vm_H} (hz : v0.1.1 = false) : ∀ N : Nat, (∀ (vh : vm_H) (θ1 : tc_S) (x1 : Int), (tc θ1 v0 vh) → (θ1.2.2.1 = θ.2.2.1) → (θ1.1 = θ.1 ∧ θ1.2.1 = θ.2.1 ∧ 0 ≤ θ1.2.2.2.1 ∧ θ1.2.2.2.1 ≤ 12) → (-2147483648 ≤ x1 ∧ x1 < 2147483648) → ((13 - θ1.2.2.2.1 : Int).toNat < N) → vm_Wp 6 160 49 62 [some (.ref 1), some (.int (vz x1))] [] vh (vq_P 49 (fun r v1 => (∃ θ1 : tc_S, θ1.2.2.1 = θ.2.2.1 ∧ (θ1.1 = θ.1 ∧ θ1.2.1 = θ.2.1) ∧ tc θ1 v0 v1) ∧ ∃ q : Int, (-2147483648 ≤ q ∧ q < 2147483648) ∧ r = some (.int (vz q))))) := by
  intro N
  induction N with
  | zero => exact (by intros; omega)
  | succ N ih =>
    ·
      intro vh θ1 x1 hT hyq hrq hx1 hN
      have hok : (0 ≤ θ1.1 ∧ θ1.1 ≤ 8) ∧ (0 ≤ θ1.2.1 ∧ θ1.2.1 ≤ 16) ∧ (-2147483648 ≤ θ1.2.2.2.1 ∧ θ1.2.2.2.1 < 2147483648) ∧ (0 ≤ θ1.2.2.2.2 ∧ θ1.2.2.2.2 ≤ 8) := hT.1
      refine w_ldI e49_62 (fun _ => rfl) rfl ?_
      refine w_kI e49_63 ?_
      refine w_ic e49_64 hx1 (by omega) (fun (h86 : x1 ≠ 3) => ?_) (fun (h86 : x1 = 3) => ?_)
      ·
        refine w_ldI e49_94 (fun _ => rfl) rfl ?_
        refine w_kI e49_95 ?_
        refine w_ic e49_96 hx1 (by omega) (fun (h87 : x1 = 1) => ?_) (fun (h87 : x1 ≠ 1) => ?_)
        ·
          refine w_ldI e49_107 (fun _ => rfl) rfl ?_
          refine w_kI e49_108 ?_
          refine w_ic e49_109 hx1 (by omega) (fun (h88 : x1 ≠ 3) => ?_) (fun (h88 : x1 = 3) => ?_)
          ·
            refine w_ldI e49_116 (fun _ => rfl) rfl ?_
            exact w_ri e49_117 rfl ⟨⟨θ1, hyq, (by omega), hT⟩, x1, hx1, rfl⟩
          ·
            refine w_kI e49_112 ?_
            refine w_x e49_113 (fun _ => rfl) ?_
            exact w_ri e49_117 rfl ⟨⟨θ1, hyq, (by omega), hT⟩, 2, (by omega), rfl⟩
        ·
          refine w_ldA e49_99 (fun _ => rfl) rfl ?_
          obtain ⟨m90, m91, m92, m93, hm94, hm95, hm96, hm97, hm98, hm99, e89⟩ := tc_main hT
          refine w_get e49_100 e89 rfl ?_
          refine w_kI e49_103 ?_
          obtain ⟨s101, hs102, e100⟩ := tc_tri hT
          refine w_put e49_104 e100 (Nat.le_of_ble_eq_true rfl) rfl (fun v105 b103 h104 => ?_)
          have h104 : vm_at v105 217 = some (.inr (4, [.ref 218, .int (vz 0)])) := h104
          have hT106 := ts_tri hT (by omega) b103 h104
          have e107 := (b103.2 1 (by decide)).trans e89
          refine w_ldI e49_107 (fun _ => rfl) rfl ?_
          refine w_kI e49_108 ?_
          refine w_ic e49_109 hx1 (by omega) (fun (h108 : x1 ≠ 3) => ?_) (fun (h108 : x1 = 3) => ?_)
          ·
            refine w_ldI e49_116 (fun _ => rfl) rfl ?_
            exact w_ri e49_117 rfl ⟨⟨θ1, hyq, (by omega), hT106⟩, x1, hx1, rfl⟩
          ·
            refine w_kI e49_112 ?_
            refine w_x e49_113 (fun _ => rfl) ?_
            exact w_ri e49_117 rfl ⟨⟨θ1, hyq, (by omega), hT106⟩, 2, (by omega), rfl⟩
      ·
        refine w_ldA e49_67 (fun _ => rfl) rfl ?_
        obtain ⟨m110, m111, m112, m113, hm114, hm115, hm116, hm117, hm118, hm119, e109⟩ := tc_main hT
        refine w_get e49_68 e109 rfl ?_
        refine w_kB e49_71 rfl ?_
        refine w_ic e49_73 hm119 (by omega) (fun (h120 : 12 ≤ θ1.2.2.2.1) => ?_) (fun (h120 : θ1.2.2.2.1 < 12) => ?_)
        ·
          refine w_ldI e49_94 (fun _ => rfl) rfl ?_
          refine w_kI e49_95 ?_
          refine w_ic e49_96 hx1 (by omega) (fun (h121 : x1 = 1) => ?_) (fun (h121 : x1 ≠ 1) => ?_)
          ·
            refine w_ldI e49_107 (fun _ => rfl) rfl ?_
            refine w_kI e49_108 ?_
            refine w_ic e49_109 hx1 (by omega) (fun (h122 : x1 ≠ 3) => ?_) (fun (h122 : x1 = 3) => ?_)
            ·
              refine w_ldI e49_116 (fun _ => rfl) rfl ?_
              exact w_ri e49_117 rfl ⟨⟨θ1, hyq, (by omega), hT⟩, x1, hx1, rfl⟩
            ·
              refine w_kI e49_112 ?_
              refine w_x e49_113 (fun _ => rfl) ?_
              exact w_ri e49_117 rfl ⟨⟨θ1, hyq, (by omega), hT⟩, 2, (by omega), rfl⟩
          ·
            refine w_ldA e49_99 (fun _ => rfl) rfl ?_
            refine w_get e49_100 e109 rfl ?_
            refine w_kI e49_103 ?_
            obtain ⟨s124, hs125, e123⟩ := tc_tri hT
            refine w_put e49_104 e123 (Nat.le_of_ble_eq_true rfl) rfl (fun v128 b126 h127 => ?_)
            have h127 : vm_at v128 217 = some (.inr (4, [.ref 218, .int (vz 0)])) := h127
            have hT129 := ts_tri hT (by omega) b126 h127
            have e130 := (b126.2 1 (by decide)).trans e109
            refine w_ldI e49_107 (fun _ => rfl) rfl ?_
            refine w_kI e49_108 ?_
            refine w_ic e49_109 hx1 (by omega) (fun (h131 : x1 ≠ 3) => ?_) (fun (h131 : x1 = 3) => ?_)
            ·
              refine w_ldI e49_116 (fun _ => rfl) rfl ?_
              exact w_ri e49_117 rfl ⟨⟨θ1, hyq, (by omega), hT129⟩, x1, hx1, rfl⟩
            ·
              refine w_kI e49_112 ?_
              refine w_x e49_113 (fun _ => rfl) ?_
              exact w_ri e49_117 rfl ⟨⟨θ1, hyq, (by omega), hT129⟩, 2, (by omega), rfl⟩
        ·
          refine w_ldA e49_76 (fun _ => rfl) rfl ?_
          refine w_x e49_77 (fun _ => rfl) ?_
          refine w_get e49_78 e109 rfl ?_
          refine w_kI e49_81 ?_
          refine w_iadd e49_82 ?_
          refine w_put e49_83 e109 (Nat.le_of_ble_eq_true rfl) rfl (fun v134 b132 h133 => ?_)
          have h133 : vm_at v134 1 = some (.inr (5, [.ref 2, .ref 6, .ref 55, .int (vz θ1.2.1), .ref 56, .int (vz m110), .ref 217, .ref 219, .ref 224, .ref 227, .ref 230, .ref 233, .ref 234, .ref 237, .int (vz m111), .int (vz (θ1.2.2.2.1 + 1)), .int (vz m112), .int (vz m113)])) := h133
          obtain ⟨θ136, hy137, hr138, hT135⟩ := ts_dr hz hT (by omega) (by omega) b132 h133
          have hok139 : (0 ≤ θ136.1 ∧ θ136.1 ≤ 8) ∧ (0 ≤ θ136.2.1 ∧ θ136.2.1 ≤ 16) ∧ (-2147483648 ≤ θ136.2.2.2.1 ∧ θ136.2.2.2.1 < 2147483648) ∧ (0 ≤ θ136.2.2.2.2 ∧ θ136.2.2.2.2 ≤ 8) := hT135.1
          refine w_ldA e49_86 (fun _ => rfl) rfl ?_
          obtain ⟨m141, m142, m143, m144, hm145, hm146, hm147, hm148, hm149, hm150, e140⟩ := tc_main hT135
          refine w_cv e49_87 (by decide) rfl e140 rfl (Nat.le_of_ble_eq_true rfl) (Nat.le_of_ble_eq_true rfl) (Nat.le_of_ble_eq_true rfl) (by decide) (by decide) (c69 hz hT135) (fun o151 v152 hq153 => ?_)
          obtain ⟨⟨θ155, hy156, hr157, hT154⟩, q159, h160, rfl⟩ := hq153
          have hok158 : (0 ≤ θ155.1 ∧ θ155.1 ≤ 8) ∧ (0 ≤ θ155.2.1 ∧ θ155.2.1 ≤ 16) ∧ (-2147483648 ≤ θ155.2.2.2.1 ∧ θ155.2.2.2.1 < 2147483648) ∧ (0 ≤ θ155.2.2.2.2 ∧ θ155.2.2.2.2 ≤ 8) := hT154.1
          refine w_stI (j := 1) (A1 := [some (.ref 1), some (.int (vz q159))]) e49_90 (fun _ => rfl) (by decide) rfl ?_
          refine w_x e49_91 (fun _ => rfl) ?_
          exact w_sub (A1 := [some (.ref 1), some (.int (vz q159))]) (And.intro rfl (And.intro rfl trivial)) ((ih) v152 θ155 q159 hT154 (hy156.trans (hy137.trans hyq)) (by omega) h160 (by omega))
set_option maxRecDepth 100000 in
set_option maxHeartbeats 4000000 in
theorem c49 {θ : tc_S} {v0 : (Bool × Bool) × vm_H} {vh : vm_H} (hz : v0.1.1 = false) (hT : tc θ v0 vh) : vm_Rp 6 160 49 [.ref 1] vh (fun r v1 => (∃ θ1 : tc_S, θ1.2.2.1 = θ.2.2.1 ∧ (θ1.1 = θ.1 ∧ θ1.2.1 = θ.2.1) ∧ tc θ1 v0 v1) ∧ ∃ q : Int, (-2147483648 ≤ q ∧ q < 2147483648) ∧ r = some (.int (vz q))) := by
  have hok : (0 ≤ θ.1 ∧ θ.1 ≤ 8) ∧ (0 ≤ θ.2.1 ∧ θ.2.1 ≤ 16) ∧ (-2147483648 ≤ θ.2.2.2.1 ∧ θ.2.2.2.1 < 2147483648) ∧ (0 ≤ θ.2.2.2.2 ∧ θ.2.2.2.2 ≤ 8) := hT.1
  refine w_in (m := 1) ?_
  show vm_Wp _ _ _ 0 [some (.ref 1), none] [] _ _
  refine w_ldA e49_0 (fun _ => rfl) rfl ?_
  obtain ⟨m2, m3, m4, m5, hm6, hm7, hm8, hm9, hm10, hm11, e1⟩ := tc_main hT
  refine w_cv e49_1 (by decide) rfl e1 rfl (Nat.le_of_ble_eq_true rfl) (Nat.le_of_ble_eq_true rfl) (Nat.le_of_ble_eq_true rfl) (by decide) (by decide) (c66 hz hT) (fun o12 v13 hq14 => ?_)
  obtain ⟨rfl, q16, h17, rfl⟩ := hq14
  refine w_if e49_4 (by omega) (fun (h18 : q16 ≠ 0) => ?_) (fun (h18 : q16 = 0) => ?_)
  ·
    refine w_ldA e49_9 (fun _ => rfl) rfl ?_
    refine w_get e49_10 e1 rfl ?_
    obtain ⟨c20, hc21, e19⟩ := tc_poly hT (rfl : ty 227 = 1)
    refine w_cv e49_13 (by decide) rfl e19 rfl (Nat.le_of_ble_eq_true rfl) (Nat.le_of_ble_eq_true rfl) (Nat.le_of_ble_eq_true rfl) (by decide) (by decide) (c17 (tc_fz hT) (rfl : ty 227 = 1) (Or.inr (by decide))) (fun o22 v23 hq24 => ?_)
    obtain ⟨hT25, rfl⟩ := hq24
    have hT26 := tc_uf hT hT25
    have e27 := (tc_k1 hT25).trans e1
    refine w_ldA e49_16 (fun _ => rfl) rfl ?_
    refine w_get e49_17 e27 rfl ?_
    obtain ⟨s29, hs30, e28⟩ := tc_tri hT26
    refine w_get e49_20 e28 rfl ?_
    refine w_if e49_23 (by omega) (fun (h31 : s29 ≤ 0) => ?_) (fun (h31 : 0 < s29) => ?_)
    ·
      refine w_ldA e49_28 (fun _ => rfl) rfl ?_
      refine w_get e49_29 e27 rfl ?_
      obtain ⟨c33, hc34, e32⟩ := tc_poly hT26 (rfl : ty 224 = 1)
      refine w_cv e49_32 (by decide) rfl e32 rfl (Nat.le_of_ble_eq_true rfl) (Nat.le_of_ble_eq_true rfl) (Nat.le_of_ble_eq_true rfl) (by decide) (by decide) (c17 (tc_fz hT26) (rfl : ty 224 = 1) (Or.inr (by decide))) (fun o35 v36 hq37 => ?_)
      obtain ⟨hT38, rfl⟩ := hq37
      have hT39 := tc_uf hT26 hT38
      have e40 := (tc_k1 hT38).trans e27
      refine w_ldA e49_35 (fun _ => rfl) rfl ?_
      refine w_kI e49_36 ?_
      refine w_put e49_37 e40 (Nat.le_of_ble_eq_true rfl) rfl (fun v43 b41 h42 => ?_)
      have h42 : vm_at v43 1 = some (.inr (5, [.ref 2, .ref 6, .ref 55, .int (vz θ.2.1), .ref 56, .int (vz m2), .ref 217, .ref 219, .ref 224, .ref 227, .ref 230, .ref 233, .ref 234, .ref 237, .int (vz m3), .int (vz 0), .int (vz m4), .int (vz m5)])) := h42
      obtain ⟨θ45, hy46, hr47, hT44⟩ := ts_dr hz hT39 (by omega) (by omega) b41 h42
      have hok48 : (0 ≤ θ45.1 ∧ θ45.1 ≤ 8) ∧ (0 ≤ θ45.2.1 ∧ θ45.2.1 ≤ 16) ∧ (-2147483648 ≤ θ45.2.2.2.1 ∧ θ45.2.2.2.1 < 2147483648) ∧ (0 ≤ θ45.2.2.2.2 ∧ θ45.2.2.2.2 ≤ 8) := hT44.1
      refine w_ldA e49_40 (fun _ => rfl) rfl ?_
      refine w_kI e49_41 ?_
      obtain ⟨m50, m51, m52, m53, hm54, hm55, hm56, hm57, hm58, hm59, e49⟩ := tc_main hT44
      refine w_put e49_42 e49 (Nat.le_of_ble_eq_true rfl) rfl (fun v62 b60 h61 => ?_)
      have h61 : vm_at v62 1 = some (.inr (5, [.ref 2, .ref 6, .ref 55, .int (vz θ45.2.1), .ref 56, .int (vz m50), .ref 217, .ref 219, .ref 224, .ref 227, .ref 230, .ref 233, .ref 234, .ref 237, .int (vz m51), .int (vz θ45.2.2.2.1), .int (vz 0), .int (vz m53)])) := h61
      have hT63 := ts_main hz hT44 (by omega) b60 h61
      refine w_ldA e49_45 (fun _ => rfl) rfl ?_
      refine w_cv e49_46 (by decide) rfl h61 rfl (Nat.le_of_ble_eq_true rfl) (Nat.le_of_ble_eq_true rfl) (Nat.le_of_ble_eq_true rfl) (by decide) (by decide) (c67 hz hT63) (fun o64 v65 hq66 => ?_)
      obtain ⟨hT67, rfl⟩ := hq66
      refine w_ldA e49_49 (fun _ => rfl) rfl ?_
      obtain ⟨m69, m70, m71, m72, hm73, hm74, hm75, hm76, hm77, hm78, e68⟩ := tc_main hT67
      refine w_cv e49_50 (by decide) rfl e68 rfl (Nat.le_of_ble_eq_true rfl) (Nat.le_of_ble_eq_true rfl) (Nat.le_of_ble_eq_true rfl) (by decide) (by decide) (c68 hz hT67) (fun o79 v80 hq81 => ?_)
      obtain ⟨hT82, q83, h84, rfl⟩ := hq81
      refine w_if e49_53 (by omega) (fun (h85 : q83 = 0) => ?_) (fun (h85 : q83 ≠ 0) => ?_)
      ·
        refine w_kI e49_60 ?_
        refine w_stI (j := 1) (A1 := [some (.ref 1), some (.int (vz 3))]) e49_61 (fun _ => rfl) (by decide) rfl ?_
        exact w_sub (A1 := [some (.ref 1), some (.int (vz 3))]) (And.intro rfl (And.intro rfl trivial)) (((c49_L (θ := θ) (v0 := v0) hz _)) v80 θ45 3 hT82 hy46 (by omega) (by omega) (Nat.lt_succ_self _))
      ·
        refine w_kI e49_56 ?_
        refine w_x e49_57 (fun _ => rfl) ?_
        refine w_stI (j := 1) (A1 := [some (.ref 1), some (.int (vz 0))]) e49_61 (fun _ => rfl) (by decide) rfl ?_
        exact w_sub (A1 := [some (.ref 1), some (.int (vz 0))]) (And.intro rfl (And.intro rfl trivial)) (((c49_L (θ := θ) (v0 := v0) hz _)) v80 θ45 0 hT82 hy46 (by omega) (by omega) (Nat.lt_succ_self _))
    ·
      refine w_kI e49_26 ?_
      exact w_ri e49_27 rfl ⟨⟨θ, rfl, (by omega), hT26⟩, 1, (by omega), rfl⟩
  ·
    refine w_kI e49_7 ?_
    exact w_ri e49_8 rfl ⟨⟨θ, rfl, (by omega), hT⟩, -1, (by omega), rfl⟩
set_option maxRecDepth 100000 in
set_option maxHeartbeats 4000000 in
theorem c48 {θ : tc_S} {v0 : (Bool × Bool) × vm_H} {vh : vm_H} (hz : v0.1.1 = false) (hT : tc θ v0 vh) {i1 : Int} (hi_1 : -2147483648 ≤ i1 ∧ i1 < 2147483648) {i2 : Int} (hi_2 : 0 ≤ i2 ∧ i2 ≤ 1) : vm_Rp 2 43 48 [.ref 1, .int (vz i1), .int (vz i2)] vh (fun r v1 => (∃ θ1 : tc_S, True ∧ (θ1.1 = θ.1 ∧ θ1.2.1 = θ.2.1) ∧ tc θ1 v0 v1) ∧ ∃ q : Int, ((0 ≤ q ∧ q ≤ 1)) ∧ r = some (.int (vz q))) := by
  have hok : (0 ≤ θ.1 ∧ θ.1 ≤ 8) ∧ (0 ≤ θ.2.1 ∧ θ.2.1 ≤ 16) ∧ (-2147483648 ≤ θ.2.2.2.1 ∧ θ.2.2.2.1 < 2147483648) ∧ (0 ≤ θ.2.2.2.2 ∧ θ.2.2.2.2 ≤ 8) := hT.1
  refine w_in (m := 0) ?_
  show vm_Wp _ _ _ 0 [some (.ref 1), some (.int (vz i1)), some (.int (vz i2))] [] _ _
  refine w_ldA e48_0 (fun _ => rfl) rfl ?_
  refine w_ldI e48_1 (fun _ => rfl) rfl ?_
  obtain ⟨m2, m3, m4, m5, hm6, hm7, hm8, hm9, hm10, hm11, e1⟩ := tc_main hT
  refine w_cv e48_2 (by decide) rfl e1 rfl (Nat.le_of_ble_eq_true rfl) (Nat.le_of_ble_eq_true rfl) (Nat.le_of_ble_eq_true rfl) (by decide) (by decide) (c59 hz hT hi_1) (fun o12 v13 hq14 => ?_)
  obtain ⟨rfl, q16, h17, rfl⟩ := hq14
  refine w_if e48_5 (by omega) (fun (h18 : q16 = 0) => ?_) (fun (h18 : q16 ≠ 0) => ?_)
  ·
    refine w_kI e48_18 ?_
    exact w_rz e48_19 rfl (by omega) ⟨⟨θ, trivial, (by omega), hT⟩, 0, (by omega), rfl⟩
  ·
    refine w_ldA e48_8 (fun _ => rfl) rfl ?_
    refine w_get e48_9 e1 rfl ?_
    refine w_ldI e48_12 (fun _ => rfl) rfl ?_
    have e19 := tc_hyps hT
    refine w_zldO e48_13 e19 (by omega) (by omega) (by decide) (fun q20 h21 h22 => ?_)
    refine w_ldI e48_14 (fun _ => rfl) rfl ?_
    refine w_ic e48_15 h21 (by omega) (fun (h23 : q20 ≠ i2) => ?_) (fun (h23 : q20 = i2) => ?_)
    ·
      refine w_ldA e48_20 (fun _ => rfl) rfl ?_
      refine w_get e48_21 e1 rfl ?_
      refine w_ldI e48_24 (fun _ => rfl) rfl ?_
      refine w_ldI e48_25 (fun _ => rfl) rfl ?_
      refine w_zst e48_26 e19 (by omega) (by omega) (by decide) (fun v26 b24 h25 => ?_)
      obtain ⟨θ28, hy29, hr30, hT27⟩ := ts_hy hT b24 h25
      have hok31 : (0 ≤ θ28.1 ∧ θ28.1 ≤ 8) ∧ (0 ≤ θ28.2.1 ∧ θ28.2.1 ≤ 16) ∧ (-2147483648 ≤ θ28.2.2.2.1 ∧ θ28.2.2.2.1 < 2147483648) ∧ (0 ≤ θ28.2.2.2.2 ∧ θ28.2.2.2.2 ≤ 8) := hT27.1
      refine w_ldA e48_27 (fun _ => rfl) rfl ?_
      obtain ⟨m33, m34, m35, m36, hm37, hm38, hm39, hm40, hm41, hm42, e32⟩ := tc_main hT27
      refine w_cv e48_28 (by decide) rfl e32 rfl (Nat.le_of_ble_eq_true rfl) (Nat.le_of_ble_eq_true rfl) (Nat.le_of_ble_eq_true rfl) (by decide) (by decide) (c63 hz hT27) (fun o43 v44 hq45 => ?_)
      obtain ⟨hT46, rfl⟩ := hq45
      refine w_kI e48_31 ?_
      exact w_rz e48_32 rfl (by omega) ⟨⟨θ28, trivial, (by omega), hT46⟩, 1, (by omega), rfl⟩
    ·
      refine w_kI e48_18 ?_
      exact w_rz e48_19 rfl (by omega) ⟨⟨θ, trivial, (by omega), hT⟩, 0, (by omega), rfl⟩
