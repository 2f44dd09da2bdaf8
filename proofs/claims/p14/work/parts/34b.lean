set_option maxRecDepth 100000 in
set_option maxHeartbeats 4000000 in
theorem k2 {Z : Nat → Nat → Int} {al : Nat → Nat → Int64} {ai : Nat → Nat → Int} {az : Nat → Nat → Int32} {mm : Nat → Option Nat} {sk : Nat} {v0 vh : vm_H} (hM : tk Z al ai az mm sk v0 vh) (hk : kn Z) {i1 : Int} (hi_1 : -2147483648 ≤ i1 ∧ i1 < 2147483648) : vm_Rp 0 0 2 [.ref 2, .int (vz i1)] vh (fun r v1 => vh = v1 ∧ ∃ q : Int, ((0 ≤ q ∧ q ≤ 1) ∧ (q = 1 ↔ (0 ≤ i1 ∧ i1 < Z 2 0))) ∧ r = some (.int (vz q))) := by
  refine w_in (m := 0) ?_
  show vm_Wp _ _ _ 0 [some (.ref 2), some (.int (vz i1))] [] _ _
  refine w_ldI e2_0 (fun _ => rfl) rfl ?_
  refine w_if e2_1 hi_1 (fun (h1 : i1 < 0) => ?_) (fun (h1 : 0 ≤ i1) => ?_)
  ·
    refine w_kI e2_16 ?_
    exact w_rz e2_17 rfl (by omega) ⟨rfl, 0, ⟨by omega, by omega⟩, rfl⟩
  ·
    refine w_ldI e2_4 (fun _ => rfl) rfl ?_
    refine w_ldA e2_5 (fun _ => rfl) rfl ?_
    have e2 := tk_pla hM
    refine w_get e2_6 e2 rfl ?_
    refine w_ic e2_9 hi_1 (tk_r hM 2 0) (fun (h3 : Z 2 0 ≤ i1) => ?_) (fun (h3 : i1 < Z 2 0) => ?_)
    ·
      refine w_kI e2_16 ?_
      exact w_rz e2_17 rfl (by omega) ⟨rfl, 0, ⟨by omega, by omega⟩, rfl⟩
    ·
      refine w_kI e2_12 ?_
      refine w_x e2_13 (fun _ => rfl) ?_
      exact w_rz e2_17 rfl (by omega) ⟨rfl, 1, ⟨by omega, by omega⟩, rfl⟩
set_option maxRecDepth 100000 in
set_option maxHeartbeats 4000000 in
theorem k59 {Z : Nat → Nat → Int} {al : Nat → Nat → Int64} {ai : Nat → Nat → Int} {az : Nat → Nat → Int32} {mm : Nat → Option Nat} {sk : Nat} {v0 vh : vm_H} (hM : tk Z al ai az mm sk v0 vh) (hk : kn Z) {i1 : Int} (hi_1 : -2147483648 ≤ i1 ∧ i1 < 2147483648) : vm_Rp 0 0 59 [.ref 1, .int (vz i1)] vh (fun r v1 => vh = v1 ∧ ∃ q : Int, ((0 ≤ q ∧ q ≤ 1) ∧ (q = 1 ↔ (0 ≤ i1 ∧ i1 < Z 1 0))) ∧ r = some (.int (vz q))) := by
  refine w_in (m := 0) ?_
  show vm_Wp _ _ _ 0 [some (.ref 1), some (.int (vz i1))] [] _ _
  refine w_ldI e59_0 (fun _ => rfl) rfl ?_
  refine w_if e59_1 hi_1 (fun (h1 : i1 < 0) => ?_) (fun (h1 : 0 ≤ i1) => ?_)
  ·
    refine w_kI e59_16 ?_
    exact w_rz e59_17 rfl (by omega) ⟨rfl, 0, ⟨by omega, by omega⟩, rfl⟩
  ·
    refine w_ldI e59_4 (fun _ => rfl) rfl ?_
    refine w_ldA e59_5 (fun _ => rfl) rfl ?_
    have e2 := tk_main hM
    refine w_get e59_6 e2 rfl ?_
    refine w_ic e59_9 hi_1 (tk_r hM 1 0) (fun (h3 : Z 1 0 ≤ i1) => ?_) (fun (h3 : i1 < Z 1 0) => ?_)
    ·
      refine w_kI e59_16 ?_
      exact w_rz e59_17 rfl (by omega) ⟨rfl, 0, ⟨by omega, by omega⟩, rfl⟩
    ·
      refine w_kI e59_12 ?_
      refine w_x e59_13 (fun _ => rfl) ?_
      exact w_rz e59_17 rfl (by omega) ⟨rfl, 1, ⟨by omega, by omega⟩, rfl⟩
set_option maxRecDepth 100000 in
set_option maxHeartbeats 4000000 in
theorem k60 {Z : Nat → Nat → Int} {al : Nat → Nat → Int64} {ai : Nat → Nat → Int} {az : Nat → Nat → Int32} {mm : Nat → Option Nat} {sk : Nat} {v0 vh : vm_H} (hM : tk Z al ai az mm sk v0 vh) (hk : kn Z) {i1 : Int} (hi_1 : -2147483648 ≤ i1 ∧ i1 < 2147483648) : vm_Rp 0 0 60 [.ref 1, .int (vz i1)] vh (fun r v1 => vh = v1 ∧ ∃ q : Int, ((0 ≤ q ∧ q ≤ 1) ∧ (q = 1 ↔ (0 ≤ i1 ∧ i1 < Z 217 0))) ∧ r = some (.int (vz q))) := by
  refine w_in (m := 0) ?_
  show vm_Wp _ _ _ 0 [some (.ref 1), some (.int (vz i1))] [] _ _
  refine w_ldI e60_0 (fun _ => rfl) rfl ?_
  refine w_if e60_1 hi_1 (fun (h1 : i1 < 0) => ?_) (fun (h1 : 0 ≤ i1) => ?_)
  ·
    refine w_kI e60_19 ?_
    exact w_rz e60_20 rfl (by omega) ⟨rfl, 0, ⟨by omega, by omega⟩, rfl⟩
  ·
    refine w_ldI e60_4 (fun _ => rfl) rfl ?_
    refine w_ldA e60_5 (fun _ => rfl) rfl ?_
    have e2 := tk_main hM
    refine w_get e60_6 e2 rfl ?_
    have e3 := tk_tri hM
    refine w_get e60_9 e3 rfl ?_
    refine w_ic e60_12 hi_1 (tk_r hM 217 0) (fun (h4 : Z 217 0 ≤ i1) => ?_) (fun (h4 : i1 < Z 217 0) => ?_)
    ·
      refine w_kI e60_19 ?_
      exact w_rz e60_20 rfl (by omega) ⟨rfl, 0, ⟨by omega, by omega⟩, rfl⟩
    ·
      refine w_kI e60_15 ?_
      refine w_x e60_16 (fun _ => rfl) ?_
      exact w_rz e60_20 rfl (by omega) ⟨rfl, 1, ⟨by omega, by omega⟩, rfl⟩
set_option maxRecDepth 100000 in
set_option maxHeartbeats 4000000 in
theorem k63 {Z : Nat → Nat → Int} {al : Nat → Nat → Int64} {ai : Nat → Nat → Int} {az : Nat → Nat → Int32} {mm : Nat → Option Nat} {sk : Nat} {v0 vh : vm_H} (hM : tk Z al ai az mm sk v0 vh) (hk : kn Z) : vm_Rp 1 23 63 [.ref 1] vh (fun r v1 => (∃ (Z1 : Nat → Nat → Int) (ai1 : Nat → Nat → Int), fgO Z Z1 ai ai1 ∧ kn Z1 ∧ tk Z1 al ai1 az mm sk v0 v1) ∧ r = none) := by
  refine w_in (m := 0) ?_
  show vm_Wp _ _ _ 0 [some (.ref 1)] [] _ _
  refine w_ldA e63_0 (fun _ => rfl) rfl ?_
  have e1 := tk_main hM
  refine w_get e63_1 e1 rfl ?_
  refine w_kI e63_4 ?_
  have e2 := tk_tri hM
  refine w_put e63_5 e2 (Nat.le_of_ble_eq_true rfl) rfl (fun v5 b3 h4 => ?_)
  obtain ⟨Z6, hd7, hM8⟩ : ∃ z, z = u2 Z 217 0 0 ∧ tk z al ai az mm sk v0 v5 := ⟨_, rfl, tk_Zt hM (by omega) b3 h4⟩
  have hk9 := kn_u hk hd7 (fun h9 => absurd h9 (by decide))
  refine w_ldA e63_8 (fun _ => rfl) rfl ?_
  have e10 := tk_main hM8
  refine w_get e63_9 e10 rfl ?_
  have e11 := tk_poly hM8 (rfl : ty 227 = 1)
  have hk12 := hk9 227 (rfl : ty 227 = 1)
  refine w_cv e63_12 (by decide) rfl e11 rfl (Nat.le_of_ble_eq_true rfl) (Nat.le_of_ble_eq_true rfl) (Nat.le_of_ble_eq_true rfl) (by decide) (by decide) (k17 hM8 hk9 (rfl : ty 227 = 1)) (fun o13 v14 hq15 => ?_)
  obtain ⟨⟨Z16, hd17, hk18, hM19⟩, rfl⟩ := hq15
  refine w_ldA e63_15 (fun _ => rfl) rfl ?_
  have e20 := tk_main hM19
  refine w_get e63_16 e20 rfl ?_
  have e21 := tk_poly hM19 (rfl : ty 230 = 1)
  have hk22 := hk18 230 (rfl : ty 230 = 1)
  refine w_cv e63_19 (by decide) rfl e21 rfl (Nat.le_of_ble_eq_true rfl) (Nat.le_of_ble_eq_true rfl) (Nat.le_of_ble_eq_true rfl) (by decide) (by decide) (k17 hM19 hk18 (rfl : ty 230 = 1)) (fun o23 v24 hq25 => ?_)
  obtain ⟨⟨Z26, hd27, hk28, hM29⟩, rfl⟩ := hq25
  refine w_ldA e63_22 (fun _ => rfl) rfl ?_
  have e30 := tk_main hM29
  refine w_get e63_23 e30 rfl ?_
  refine w_kI e63_26 ?_
  refine w_cs e63_27 (by decide) (Nat.le_of_ble_eq_true rfl) (Nat.le_of_ble_eq_true rfl) (Nat.le_of_ble_eq_true rfl) (by decide) (by decide) (k123 hM29 hk28 (rfl : ty 233 = 15) (by omega)) (fun o31 v32 hq33 => ?_)
  obtain ⟨⟨ai34, h35, hM36⟩, rfl⟩ := hq33
  exact w_rv e63_30 rfl ⟨⟨Z26, ai34, ⟨by rw [hd27, hd17, hd7], h35⟩, hk28, hM36⟩, rfl⟩
set_option maxRecDepth 100000 in
set_option maxHeartbeats 4000000 in
theorem k3 {Z : Nat → Nat → Int} {al : Nat → Nat → Int64} {ai : Nat → Nat → Int} {az : Nat → Nat → Int32} {mm : Nat → Option Nat} {sk : Nat} {v0 vh : vm_H} (hM : tk Z al ai az mm sk v0 vh) (hk : kn Z) {i1 : Int} (hi_1 : 0 ≤ i1 ∧ i1 ≤ 1) (hn : 0 ≤ Z 2 0 ∧ Z 2 0 ≤ 8) : vm_Rp 0 0 3 [.ref 2, .int (vz i1)] vh (fun r v1 => ∃ (Z1 : Nat → Nat → Int) (ai1 : Nat → Nat → Int) (az1 : Nat → Nat → Int32) (q : Int), apO Z Z1 ai ai1 az az1 i1 q ∧ r = some (.int (vz q)) ∧ kn Z1 ∧ tk Z1 al ai1 az1 mm sk v0 v1) := by
  refine w_in (m := 0) ?_
  show vm_Wp _ _ _ 0 [some (.ref 2), some (.int (vz i1))] [] _ _
  refine w_ldA e3_0 (fun _ => rfl) rfl ?_
  have e1 := tk_pla hM
  refine w_get e3_1 e1 rfl ?_
  refine w_kB e3_4 rfl ?_
  refine w_ic e3_6 (tk_r hM 2 0) (by omega) (fun (h2 : Z 2 0 < 8) => ?_) (fun (h2 : 8 ≤ Z 2 0) => ?_)
  ·
    refine w_ldA e3_11 (fun _ => rfl) rfl ?_
    refine w_get e3_12 e1 rfl ?_
    refine w_ldA e3_15 (fun _ => rfl) rfl ?_
    refine w_get e3_16 e1 rfl ?_
    refine w_ldI e3_19 (fun _ => rfl) rfl ?_
    have e3 := tk_free hM
    refine w_zst e3_20 e3 (by omega) (by omega) (by decide) (fun v6 b4 h5 => ?_)
    obtain ⟨az7, hd8, hM9⟩ : ∃ z, z = u2 az 3 (Z 2 0).toNat (vz i1 &&& 1) ∧ tk Z al ai z mm sk v0 v6 := ⟨_, rfl, tk_F hM b4 h5⟩
    refine w_ldA e3_21 (fun _ => rfl) rfl ?_
    have e10 := tk_pla hM9
    refine w_get e3_22 e10 rfl ?_
    refine w_ldA e3_25 (fun _ => rfl) rfl ?_
    refine w_get e3_26 e10 rfl ?_
    refine w_ldA e3_29 (fun _ => rfl) rfl ?_
    refine w_get e3_30 e10 rfl ?_
    have e11 := tk_vars hM9
    refine w_ast e3_33 e11 (by omega) (by omega) (by decide) (by decide) (fun v14 b12 h13 => ?_)
    obtain ⟨ai15, hd16, hM17⟩ : ∃ z, z = u2 ai 5 (Z 2 0).toNat (Z 2 0) ∧ tk Z al z az7 mm sk v0 v14 := ⟨_, rfl, tk_V hM9 (tk_r hM9 2 0) b12 h13⟩
    refine w_ldA e3_34 (fun _ => rfl) rfl ?_
    refine w_x e3_35 (fun _ => rfl) ?_
    have e18 := tk_pla hM17
    refine w_get e3_36 e18 rfl ?_
    refine w_kI e3_39 ?_
    refine w_iadd e3_40 ?_
    refine w_put e3_41 e18 (Nat.le_of_ble_eq_true rfl) rfl (fun v21 b19 h20 => ?_)
    obtain ⟨Z22, hd23, hM24⟩ : ∃ z, z = u2 Z 2 0 ((Z 2 0) + 1) ∧ tk z al ai15 az7 mm sk v0 v21 := ⟨_, rfl, tk_Zpl hM17 (by omega) b19 h20⟩
    have hk25 := kn_u hk hd23 (fun h9 => absurd h9 (by decide))
    refine w_ldA e3_44 (fun _ => rfl) rfl ?_
    have e26 := tk_pla hM24
    refine w_get e3_45 e26 rfl ?_
    refine w_kI e3_48 ?_
    refine w_isub e3_49 ?_
    exact w_ri e3_50 rfl ⟨Z22, ai15, az7, (Z22 2 0) - 1, Or.inr ⟨by omega, by rw [hd23, u2_s]; omega, hd23, hd16, hd8⟩, rfl, hk25, hM24⟩
  ·
    refine w_kI e3_9 ?_
    exact w_ri e3_10 rfl ⟨Z, ai, az, -1, Or.inl ⟨by omega, rfl, rfl, rfl, rfl⟩, rfl, hk, hM⟩
set_option maxRecDepth 100000 in
set_option maxHeartbeats 4000000 in
theorem k44 {Z : Nat → Nat → Int} {al : Nat → Nat → Int64} {ai : Nat → Nat → Int} {az : Nat → Nat → Int32} {mm : Nat → Option Nat} {sk : Nat} {v0 vh : vm_H} (hM : tk Z al ai az mm sk v0 vh) (hk : kn Z) {i1 : Int} (hi_1 : 0 ≤ i1 ∧ i1 ≤ 1) (hn : 0 ≤ Z 2 0 ∧ Z 2 0 ≤ 8) : vm_Rp 2 43 44 [.ref 1, .int (vz i1)] vh (fun r v1 => ∃ (Z1 : Nat → Nat → Int) (ai1 : Nat → Nat → Int) (az1 : Nat → Nat → Int32) (q : Int), (∃ (Za : Nat → Nat → Int) (aia : Nat → Nat → Int), apO Z Za ai aia az az1 i1 q ∧ ((q = -1 ∧ Z1 = Za ∧ ai1 = aia) ∨ (q ≠ -1 ∧ fgO Za Z1 aia ai1))) ∧ r = some (.int (vz q)) ∧ kn Z1 ∧ tk Z1 al ai1 az1 mm sk v0 v1) := by
  refine w_in (m := 1) ?_
  show vm_Wp _ _ _ 0 [some (.ref 1), some (.int (vz i1)), none] [] _ _
  refine w_ldA e44_0 (fun _ => rfl) rfl ?_
  have e1 := tk_main hM
  refine w_get e44_1 e1 rfl ?_
  refine w_ldI e44_4 (fun _ => rfl) rfl ?_
  have e2 := tk_pla hM
  refine w_cv e44_5 (by decide) rfl e2 rfl (Nat.le_of_ble_eq_true rfl) (Nat.le_of_ble_eq_true rfl) (Nat.le_of_ble_eq_true rfl) (by decide) (by decide) (k3 hM hk (by omega) hn) (fun o3 v4 hq5 => ?_)
  obtain ⟨Z6, ai7, az8, q9, ha10, rfl, hk11, hM12⟩ := hq5
  have hapb := apO_b ha10
  refine w_stI (j := 2) (A1 := [some (.ref 1), some (.int (vz i1)), some (.int (vz q9))]) e44_8 (fun _ => rfl) (by decide) rfl ?_
  refine w_ldI e44_9 (fun _ => rfl) rfl ?_
  refine w_kI e44_10 ?_
  refine w_ic e44_11 (by omega) (by omega) (fun (h13 : q9 = -1) => ?_) (fun (h13 : q9 ≠ -1) => ?_)
  ·
    refine w_ldI e44_18 (fun _ => rfl) rfl ?_
    exact w_ri e44_19 rfl ⟨Z6, ai7, az8, q9, ⟨_, _, ha10, Or.inl ⟨by omega, rfl, rfl⟩⟩, rfl, hk11, hM12⟩
  ·
    refine w_ldA e44_14 (fun _ => rfl) rfl ?_
    have e14 := tk_main hM12
    refine w_cv e44_15 (by decide) rfl e14 rfl (Nat.le_of_ble_eq_true rfl) (Nat.le_of_ble_eq_true rfl) (Nat.le_of_ble_eq_true rfl) (by decide) (by decide) (k63 hM12 hk11) (fun o15 v16 hq17 => ?_)
    obtain ⟨⟨Z18, ai19, hf20, hk21, hM22⟩, rfl⟩ := hq17
    refine w_ldI e44_18 (fun _ => rfl) rfl ?_
    exact w_ri e44_19 rfl ⟨Z18, ai19, az8, q9, ⟨_, _, ha10, Or.inr ⟨by omega, hf20⟩⟩, rfl, hk21, hM22⟩
set_option maxRecDepth 100000 in
set_option maxHeartbeats 4000000 in
theorem k46 {Z : Nat → Nat → Int} {al : Nat → Nat → Int64} {ai : Nat → Nat → Int} {az : Nat → Nat → Int32} {mm : Nat → Option Nat} {sk : Nat} {v0 vh : vm_H} (hM : tk Z al ai az mm sk v0 vh) (hk : kn Z) (hp : 0 ≤ Z 1 0 ∧ Z 1 0 ≤ 16) : vm_Rp 0 0 46 [.ref 1] vh (fun r v1 => ∃ (Z1 : Nat → Nat → Int) (q : Int), ((Z 1 0 = 16 ∧ q = -1 ∧ Z1 = Z) ∨ (Z 1 0 < 16 ∧ q = Z 1 0 ∧ Z1 = u2 Z 1 0 (Z 1 0 + 1))) ∧ r = some (.int (vz q)) ∧ kn Z1 ∧ tk Z1 al ai az mm sk v0 v1) := by
  refine w_in (m := 0) ?_
  show vm_Wp _ _ _ 0 [some (.ref 1)] [] _ _
  refine w_ldA e46_0 (fun _ => rfl) rfl ?_
  have e1 := tk_main hM
  refine w_get e46_1 e1 rfl ?_
  refine w_kB e46_4 rfl ?_
  refine w_ic e46_6 (tk_r hM 1 0) (by omega) (fun (h2 : Z 1 0 < 16) => ?_) (fun (h2 : 16 ≤ Z 1 0) => ?_)
  ·
    refine w_ldA e46_11 (fun _ => rfl) rfl ?_
    refine w_x e46_12 (fun _ => rfl) ?_
    refine w_get e46_13 e1 rfl ?_
    refine w_kI e46_16 ?_
    refine w_iadd e46_17 ?_
    refine w_put e46_18 e1 (Nat.le_of_ble_eq_true rfl) rfl (fun v5 b3 h4 => ?_)
    obtain ⟨Z6, hd7, hM8⟩ : ∃ z, z = u2 Z 1 0 ((Z 1 0) + 1) ∧ tk z al ai az mm sk v0 v5 := ⟨_, rfl, tk_Zm0 hM (by omega) b3 h4⟩
    have hk9 := kn_u hk hd7 (fun h9 => absurd h9 (by decide))
    refine w_ldA e46_21 (fun _ => rfl) rfl ?_
    have e10 := tk_main hM8
    refine w_get e46_22 e10 rfl ?_
    refine w_kI e46_25 ?_
    refine w_isub e46_26 ?_
    exact w_ri e46_27 rfl ⟨Z6, (Z6 1 0) - 1, Or.inr ⟨by omega, by rw [hd7, u2_s]; omega, hd7⟩, rfl, hk9, hM8⟩
  ·
    refine w_kI e46_9 ?_
    exact w_ri e46_10 rfl ⟨Z, -1, Or.inl ⟨by omega, rfl, rfl⟩, rfl, hk, hM⟩
set_option maxRecDepth 100000 in
set_option maxHeartbeats 4000000 in
theorem k48 {Z : Nat → Nat → Int} {al : Nat → Nat → Int64} {ai : Nat → Nat → Int} {az : Nat → Nat → Int32} {mm : Nat → Option Nat} {sk : Nat} {v0 vh : vm_H} (hM : tk Z al ai az mm sk v0 vh) (hk : kn Z) {i1 : Int} (hi_1 : -2147483648 ≤ i1 ∧ i1 < 2147483648) {i2 : Int} (hi_2 : 0 ≤ i2 ∧ i2 ≤ 1) (hp : 0 ≤ Z 1 0 ∧ Z 1 0 ≤ 16) : vm_Rp 2 43 48 [.ref 1, .int (vz i1), .int (vz i2)] vh (fun r v1 => ∃ (Z1 : Nat → Nat → Int) (ai1 : Nat → Nat → Int) (az1 : Nat → Nat → Int32) (q : Int), ((q = 0 ∧ (¬ (0 ≤ i1 ∧ i1 < Z 1 0) ∨ ((0 ≤ i1 ∧ i1 < Z 1 0) ∧ az 55 (i1).toNat = vz i2)) ∧ Z1 = Z ∧ ai1 = ai ∧ az1 = az) ∨ (q = 1 ∧ (0 ≤ i1 ∧ i1 < Z 1 0) ∧ az 55 (i1).toNat ≠ vz i2 ∧ az1 = u2 az 55 (i1).toNat (vz i2 &&& 1) ∧ fgO Z Z1 ai ai1)) ∧ r = some (.int (vz q)) ∧ kn Z1 ∧ tk Z1 al ai1 az1 mm sk v0 v1) := by
  refine w_in (m := 0) ?_
  show vm_Wp _ _ _ 0 [some (.ref 1), some (.int (vz i1)), some (.int (vz i2))] [] _ _
  refine w_ldA e48_0 (fun _ => rfl) rfl ?_
  refine w_ldI e48_1 (fun _ => rfl) rfl ?_
  have e1 := tk_main hM
  refine w_cv e48_2 (by decide) rfl e1 rfl (Nat.le_of_ble_eq_true rfl) (Nat.le_of_ble_eq_true rfl) (Nat.le_of_ble_eq_true rfl) (by decide) (by decide) (k59 hM hk hi_1) (fun o2 v3 hq4 => ?_)
  obtain ⟨rfl, q5, h6, rfl⟩ := hq4
  have hb7 := h6
  refine w_if e48_5 (by omega) (fun (h8 : q5 = 0) => ?_) (fun (h8 : q5 ≠ 0) => ?_)
  ·
    refine w_kI e48_18 ?_
    exact w_rz e48_19 rfl (by omega) ⟨Z, ai, az, 0, Or.inl ⟨rfl, Or.inl (by omega), rfl, rfl, rfl⟩, rfl, hk, hM⟩
  ·
    refine w_ldA e48_8 (fun _ => rfl) rfl ?_
    refine w_get e48_9 e1 rfl ?_
    refine w_ldI e48_12 (fun _ => rfl) rfl ?_
    have e9 := tk_hyps hM
    refine w_zldO e48_13 e9 (by omega) (by omega) (by decide) (fun q10 h11 h12 => ?_)
    refine w_ldI e48_14 (fun _ => rfl) rfl ?_
    refine w_ic e48_15 h11 (by omega) (fun (h13 : q10 ≠ i2) => ?_) (fun (h13 : q10 = i2) => ?_)
    ·
      refine w_ldA e48_20 (fun _ => rfl) rfl ?_
      refine w_get e48_21 e1 rfl ?_
      refine w_ldI e48_24 (fun _ => rfl) rfl ?_
      refine w_ldI e48_25 (fun _ => rfl) rfl ?_
      refine w_zst e48_26 e9 (by omega) (by omega) (by decide) (fun v16 b14 h15 => ?_)
      obtain ⟨az17, hd18, hM19⟩ : ∃ z, z = u2 az 55 (i1).toNat (vz i2 &&& 1) ∧ tk Z al ai z mm sk v0 v16 := ⟨_, rfl, tk_H hM b14 h15⟩
      refine w_ldA e48_27 (fun _ => rfl) rfl ?_
      have e20 := tk_main hM19
      refine w_cv e48_28 (by decide) rfl e20 rfl (Nat.le_of_ble_eq_true rfl) (Nat.le_of_ble_eq_true rfl) (Nat.le_of_ble_eq_true rfl) (by decide) (by decide) (k63 hM19 hk) (fun o21 v22 hq23 => ?_)
      obtain ⟨⟨Z24, ai25, hf26, hk27, hM28⟩, rfl⟩ := hq23
      refine w_kI e48_31 ?_
      exact w_rz e48_32 rfl (by omega) ⟨Z24, ai25, az17, 1, Or.inr ⟨rfl, by omega, by rw [h12]; exact fun h9 => absurd ((vz_inj h11 (by omega)).mp h9) (by omega), hd18, hf26⟩, rfl, hk27, hM28⟩
    ·
      refine w_kI e48_18 ?_
      exact w_rz e48_19 rfl (by omega) ⟨Z, ai, az, 0, Or.inl ⟨rfl, Or.inr ⟨by omega, by rw [h12, show q10 = i2 by omega]⟩, rfl, rfl, rfl⟩, rfl, hk, hM⟩
set_option maxRecDepth 100000 in
set_option maxHeartbeats 4000000 in
theorem k6_L {Z : Nat → Nat → Int} {al : Nat → Nat → Int64} {ai : Nat → Nat → Int} {az : Nat → Nat → Int32} {mm : Nat → Option Nat} {sk : Nat} {v0 : vm_H} (hk : kn Z) {i1 : Int} (hi_1 : 0 ≤ i1 ∧ i1 < 8) {i2 : Int} (hi_2 : 0 ≤ i2 ∧ i2 < 8) : ∀ N : Nat, (∀ (vh : vm_H) (ai_ : Nat → Nat → Int) (x3 : Int) (x4 : Int), (tk Z al ai_ az mm sk v0 vh) → (-2147483648 ≤ x3 ∧ x3 < 2147483648) → (i1 ≤ x4 ∧ (x4 ≤ i2 ∨ x4 = i1)) → (mvA ai ai_ (i1).toNat x4) → (x3 = ai 5 (i1).toNat) → ((100 - x4 : Int).toNat < N) → vm_Wp 0 0 6 10 [some (.ref 2), some (.int (vz i1)), some (.int (vz i2)), some (.int (vz x3)), some (.int (vz x4))] [] vh (vq_P 6 (fun r v1 => (∃ ai1 : Nat → Nat → Int, ((∀ b, b ≠ 5 → ai1 b = ai b) ∧ ai1 5 = mvF (ai 5) (i1).toNat (i2).toNat) ∧ tk Z al ai1 az mm sk v0 v1) ∧ r = none))) ∧ (∀ (vh : vm_H) (ai_ : Nat → Nat → Int) (x3 : Int) (x4 : Int), (tk Z al ai_ az mm sk v0 vh) → (-2147483648 ≤ x3 ∧ x3 < 2147483648) → ((i2 ≤ x4 ∨ x4 = i1) ∧ 0 ≤ x4 ∧ x4 ≤ i1) → (mvB ai ai_ (i1).toNat (i2).toNat x4) → (x3 = ai 5 (i1).toNat) → ((x4 + 1 : Int).toNat < N) → vm_Wp 0 0 6 41 [some (.ref 2), some (.int (vz i1)), some (.int (vz i2)), some (.int (vz x3)), some (.int (vz x4))] [] vh (vq_P 6 (fun r v1 => (∃ ai1 : Nat → Nat → Int, ((∀ b, b ≠ 5 → ai1 b = ai b) ∧ ai1 5 = mvF (ai 5) (i1).toNat (i2).toNat) ∧ tk Z al ai1 az mm sk v0 v1) ∧ r = none))) := by
  intro N
  induction N with
  | zero => exact ⟨by intros; omega, by intros; omega⟩
  | succ N ih =>
    refine ⟨?_, ?_⟩
    ·
      intro vh ai_ x3 x4 hM hx3 hx4 hi0q hi1 hN
      refine w_ldI e6_10 (fun _ => rfl) rfl ?_
      refine w_ldI e6_12 (fun _ => rfl) rfl ?_
      refine w_ic e6_13 (by omega) (by omega) (fun (h3 : i2 ≤ x4) => ?_) (fun (h3 : x4 < i2) => ?_)
      ·
        refine w_ldI e6_38 (fun _ => rfl) rfl ?_
        refine w_stI (j := 4) (A1 := [some (.ref 2), some (.int (vz i1)), some (.int (vz i2)), some (.int (vz x3)), some (.int (vz i1))]) e6_39 (fun _ => rfl) (by decide) rfl ?_
        exact w_sub (A1 := [some (.ref 2), some (.int (vz i1)), some (.int (vz i2)), some (.int (vz x3)), some (.int (vz i1))]) (And.intro rfl (And.intro rfl (And.intro rfl (And.intro rfl (And.intro rfl trivial))))) ((ih.2) vh ai_ x3 i1 hM hx3 (by omega) (mvB_0 hi0q (by omega) (by omega) (by omega) (by omega)) hi1 (by omega))
      ·
        refine w_ldA e6_16 (fun _ => rfl) rfl ?_
        have e4 := tk_pla hM
        refine w_get e6_17 e4 rfl ?_
        refine w_ldI e6_20 (fun _ => rfl) rfl ?_
        refine w_ldA e6_22 (fun _ => rfl) rfl ?_
        refine w_get e6_23 e4 rfl ?_
        refine w_ldI e6_26 (fun _ => rfl) rfl ?_
        refine w_kI e6_28 ?_
        refine w_iadd e6_29 ?_
        have e5 := tk_vars hM
        refine w_ald e6_30 e5 (by omega) (by omega) (by decide) ?_
        show vm_Wp _ _ _ 31 _ [.int (vz (ai_ 5 (x4 + 1).toNat)), .int (vz x4), .ref 5] _ _
        refine w_ast e6_31 e5 (by omega) (by omega) (by decide) (by decide) (fun v8 b6 h7 => ?_)
        obtain ⟨ai9, hd10, hM11⟩ : ∃ z, z = u2 ai_ 5 (x4).toNat (ai_ 5 (x4 + 1).toNat) ∧ tk Z al z az mm sk v0 v8 := ⟨_, rfl, tk_V hM (tk_ri hM 5 (x4 + 1).toNat) b6 h7⟩
        refine w_iinc (A1 := [some (.ref 2), some (.int (vz i1)), some (.int (vz i2)), some (.int (vz x3)), some (.int (vz (x4 + 1)))]) e6_32 rfl (by decide) rfl ?_
        refine w_x e6_35 (fun _ => rfl) ?_
        exact w_sub (A1 := [some (.ref 2), some (.int (vz i1)), some (.int (vz i2)), some (.int (vz x3)), some (.int (vz (x4 + 1)))]) (And.intro rfl (And.intro rfl (And.intro rfl (And.intro rfl (And.intro rfl trivial))))) ((ih.1) v8 ai9 x3 (x4 + 1) hM11 hx3 (by omega) (mvA_s hi0q (by omega) rfl rfl hd10) hi1 (by omega))
    ·
      intro vh ai_ x3 x4 hM hx3 hx4 hi0q hi1 hN
      refine w_ldI e6_41 (fun _ => rfl) rfl ?_
      refine w_ldI e6_43 (fun _ => rfl) rfl ?_
      refine w_ic e6_44 (by omega) (by omega) (fun (h12 : x4 ≤ i2) => ?_) (fun (h12 : i2 < x4) => ?_)
      ·
        refine w_ldA e6_69 (fun _ => rfl) rfl ?_
        have e13 := tk_pla hM
        refine w_get e6_70 e13 rfl ?_
        refine w_ldI e6_73 (fun _ => rfl) rfl ?_
        refine w_ldI e6_74 (fun _ => rfl) rfl ?_
        have e14 := tk_vars hM
        refine w_ast e6_75 e14 (by omega) (by omega) (by decide) (by decide) (fun v17 b15 h16q => ?_)
        obtain ⟨ai18, hd19, hM20⟩ : ∃ z, z = u2 ai_ 5 (i2).toNat x3 ∧ tk Z al z az mm sk v0 v17 := ⟨_, rfl, tk_V hM hx3 b15 h16q⟩
        exact w_rv e6_76 rfl ⟨⟨ai18, mvB_e hi0q (by omega) (by omega) hi1 hd19, hM20⟩, rfl⟩
      ·
        refine w_ldA e6_47 (fun _ => rfl) rfl ?_
        have e21 := tk_pla hM
        refine w_get e6_48 e21 rfl ?_
        refine w_ldI e6_51 (fun _ => rfl) rfl ?_
        refine w_ldA e6_53 (fun _ => rfl) rfl ?_
        refine w_get e6_54 e21 rfl ?_
        refine w_ldI e6_57 (fun _ => rfl) rfl ?_
        refine w_kI e6_59 ?_
        refine w_isub e6_60 ?_
        have e22 := tk_vars hM
        refine w_ald e6_61 e22 (by omega) (by omega) (by decide) ?_
        show vm_Wp _ _ _ 62 _ [.int (vz (ai_ 5 (x4 - 1).toNat)), .int (vz x4), .ref 5] _ _
        refine w_ast e6_62 e22 (by omega) (by omega) (by decide) (by decide) (fun v25 b23 h24 => ?_)
        obtain ⟨ai26, hd27, hM28⟩ : ∃ z, z = u2 ai_ 5 (x4).toNat (ai_ 5 (x4 - 1).toNat) ∧ tk Z al z az mm sk v0 v25 := ⟨_, rfl, tk_V hM (tk_ri hM 5 (x4 - 1).toNat) b23 h24⟩
        refine w_iinc (A1 := [some (.ref 2), some (.int (vz i1)), some (.int (vz i2)), some (.int (vz x3)), some (.int (vz (x4 + (-1))))]) e6_63 rfl (by decide) rfl ?_
        refine w_x e6_66 (fun _ => rfl) ?_
        exact w_sub (A1 := [some (.ref 2), some (.int (vz i1)), some (.int (vz i2)), some (.int (vz x3)), some (.int (vz (x4 + (-1))))]) (And.intro rfl (And.intro rfl (And.intro rfl (And.intro rfl (And.intro rfl trivial))))) ((ih.2) v25 ai26 x3 (x4 + (-1)) hM28 hx3 (by omega) (mvB_s hi0q (by omega) (by omega) rfl rfl hd27) hi1 (by omega))
set_option maxRecDepth 100000 in
set_option maxHeartbeats 4000000 in
theorem k6 {Z : Nat → Nat → Int} {al : Nat → Nat → Int64} {ai : Nat → Nat → Int} {az : Nat → Nat → Int32} {mm : Nat → Option Nat} {sk : Nat} {v0 vh : vm_H} (hM : tk Z al ai az mm sk v0 vh) (hk : kn Z) {i1 : Int} (hi_1 : 0 ≤ i1 ∧ i1 < 8) {i2 : Int} (hi_2 : 0 ≤ i2 ∧ i2 < 8) : vm_Rp 0 0 6 [.ref 2, .int (vz i1), .int (vz i2)] vh (fun r v1 => (∃ ai1 : Nat → Nat → Int, ((∀ b, b ≠ 5 → ai1 b = ai b) ∧ ai1 5 = mvF (ai 5) (i1).toNat (i2).toNat) ∧ tk Z al ai1 az mm sk v0 v1) ∧ r = none) := by
  refine w_in (m := 2) ?_
  show vm_Wp _ _ _ 0 [some (.ref 2), some (.int (vz i1)), some (.int (vz i2)), none, none] [] _ _
  refine w_ldA e6_0 (fun _ => rfl) rfl ?_
  have e1 := tk_pla hM
  refine w_get e6_1 e1 rfl ?_
  refine w_ldI e6_4 (fun _ => rfl) rfl ?_
  have e2 := tk_vars hM
  refine w_ald e6_5 e2 (by omega) (by omega) (by decide) ?_
  show vm_Wp _ _ _ 6 _ [.int (vz (ai 5 (i1).toNat))] _ _
  refine w_stI (j := 3) (A1 := [some (.ref 2), some (.int (vz i1)), some (.int (vz i2)), some (.int (vz (ai 5 (i1).toNat))), none]) e6_6 (fun _ => rfl) (by decide) rfl ?_
  refine w_ldI e6_7 (fun _ => rfl) rfl ?_
  refine w_stI (j := 4) (A1 := [some (.ref 2), some (.int (vz i1)), some (.int (vz i2)), some (.int (vz (ai 5 (i1).toNat))), some (.int (vz i1))]) e6_8 (fun _ => rfl) (by decide) rfl ?_
  exact w_sub (A1 := [some (.ref 2), some (.int (vz i1)), some (.int (vz i2)), some (.int (vz (ai 5 (i1).toNat))), some (.int (vz i1))]) (And.intro rfl (And.intro rfl (And.intro rfl (And.intro rfl (And.intro rfl trivial))))) (((k6_L (Z := Z) (al := al) (ai := ai) (az := az) (mm := mm) (sk := sk) (v0 := v0) (i1 := i1) (i2 := i2) hk hi_1 hi_2 _).1) vh ai (ai 5 (i1).toNat) i1 hM (tk_ri hM 5 (i1).toNat) (by omega) (mvA_0 (by omega)) rfl (Nat.lt_succ_self _))
set_option maxRecDepth 100000 in
set_option maxHeartbeats 4000000 in
theorem k64_L {Z : Nat → Nat → Int} {al : Nat → Nat → Int64} {ai : Nat → Nat → Int} {az : Nat → Nat → Int32} {mm : Nat → Option Nat} {sk : Nat} {v0 : vm_H} (hk : kn Z) {i1 : Int} (hi_1 : 0 ≤ i1 ∧ i1 < 8) {i2 : Int} (hi_2 : 0 ≤ i2 ∧ i2 < 8) (hn : 0 ≤ Z 2 0 ∧ Z 2 0 ≤ 8) (hv : ∀ j, 0 ≤ ai 5 j ∧ ai 5 j < 8) (hp : 0 ≤ Z 1 0 ∧ Z 1 0 ≤ 16) : ∀ N : Nat, (∀ (vh : vm_H) (al_ : Nat → Nat → Int64) (x3 : Int), (tk Z al_ ai az mm sk v0 vh) → (0 ≤ x3 ∧ x3 ≤ Z 1 0) → (∀ b, b < 8 ∨ 55 ≤ b → b ≠ 225 → b ≠ 226 → al_ b = al b) → (mk1 Z (ai 5) al al_ x3) → ((1000 - x3 : Int).toNat < N) → vm_Wp 3 68 64 2 [some (.ref 1), some (.int (vz i1)), some (.int (vz i2)), some (.int (vz x3))] [] vh (vq_P 64 (fun r v1 => (∃ (al1 : Nat → Nat → Int64) (ai1 : Nat → Nat → Int), (∀ b, b < 8 ∨ 55 ≤ b → b ≠ 225 → b ≠ 226 → al1 b = al b) ∧ (((∀ b, b ≠ 5 → ai1 b = ai b) ∧ ai1 5 = mvF (ai 5) (i1).toNat (i2).toNat) ∧ mk2 Z (ai 5) (ai1 5) al al1 (Z 1 0) (Z 1 0)) ∧ tk Z al1 ai1 az mm sk v0 v1) ∧ r = none))) ∧ (∀ (vh : vm_H) (al_ : Nat → Nat → Int64) (ai_ : Nat → Nat → Int) (x3 : Int), (tk Z al_ ai_ az mm sk v0 vh) → (0 ≤ x3 ∧ x3 ≤ Z 1 0) → (∀ b, b < 8 ∨ 55 ≤ b → b ≠ 225 → b ≠ 226 → al_ b = al b) → (((∀ b, b ≠ 5 → ai_ b = ai b) ∧ ai_ 5 = mvF (ai 5) (i1).toNat (i2).toNat)) → (mk2 Z (ai 5) (ai_ 5) al al_ (Z 1 0) x3) → ((100 - x3 : Int).toNat < N) → vm_Wp 3 68 64 51 [some (.ref 1), some (.int (vz i1)), some (.int (vz i2)), some (.int (vz x3))] [] vh (vq_P 64 (fun r v1 => (∃ (al1 : Nat → Nat → Int64) (ai1 : Nat → Nat → Int), (∀ b, b < 8 ∨ 55 ≤ b → b ≠ 225 → b ≠ 226 → al1 b = al b) ∧ (((∀ b, b ≠ 5 → ai1 b = ai b) ∧ ai1 5 = mvF (ai 5) (i1).toNat (i2).toNat) ∧ mk2 Z (ai 5) (ai1 5) al al1 (Z 1 0) (Z 1 0)) ∧ tk Z al1 ai1 az mm sk v0 v1) ∧ r = none))) := by
  intro N
  induction N with
  | zero => exact ⟨by intros; omega, by intros; omega⟩
  | succ N ih =>
    refine ⟨?_, ?_⟩
    ·
      intro vh al_ x3 hM hx3 hi0q hi1 hN
      refine w_ldI e64_2 (fun _ => rfl) rfl ?_
      refine w_ldA e64_3 (fun _ => rfl) rfl ?_
      have e1 := tk_main hM
      refine w_get e64_4 e1 rfl ?_
      refine w_ic e64_7 (by omega) (tk_r hM 1 0) (fun (h2 : Z 1 0 ≤ x3) => ?_) (fun (h2 : x3 < Z 1 0) => ?_)
      ·
        refine w_ldA e64_29 (fun _ => rfl) rfl ?_
        refine w_get e64_30 e1 rfl ?_
        refine w_ldA e64_33 (fun _ => rfl) rfl ?_
        refine w_get e64_34 e1 rfl ?_
        have e3 := tk_pla hM
        refine w_cv e64_37 (by decide) rfl e3 rfl (Nat.le_of_ble_eq_true rfl) (Nat.le_of_ble_eq_true rfl) (Nat.le_of_ble_eq_true rfl) (by decide) (by decide) (c10x (pm_in hM (rfl : ty 224 = 1)) (hk 224 (rfl : ty 224 = 1)) (tk_pla hM) (tk_vars hM) hn hv (by omega)) (fun o4 v5 hq6 => ?_)
        obtain ⟨⟨K7, hp8, hkk9⟩, rfl⟩ := hq6
        obtain ⟨al10, hd11, hM12⟩ : ∃ z, z = uP al_ 224 K7 (al_ (226)) ∧ tk Z z ai az mm sk v0 v5 := ⟨_, rfl, by have h9 := tk_pm hM (rfl : ty 224 = 1) (tk_r hM 224 0) hp8; rw [u2_self] at h9; exact h9⟩
        refine w_ldA e64_40 (fun _ => rfl) rfl ?_
        have e13 := tk_main hM12
        refine w_get e64_41 e13 rfl ?_
        refine w_ldI e64_44 (fun _ => rfl) rfl ?_
        refine w_ldI e64_45 (fun _ => rfl) rfl ?_
        have e14 := tk_pla hM12
        refine w_cv e64_46 (by decide) rfl e14 rfl (Nat.le_of_ble_eq_true rfl) (Nat.le_of_ble_eq_true rfl) (Nat.le_of_ble_eq_true rfl) (by decide) (by decide) (k6 hM12 hk (by omega) (by omega)) (fun o15 v16 hq17 => ?_)
        obtain ⟨⟨ai18, hm19, hM20⟩, rfl⟩ := hq17
        refine w_kI e64_49 ?_
        refine w_stI (j := 3) (A1 := [some (.ref 1), some (.int (vz i1)), some (.int (vz i2)), some (.int (vz 0))]) e64_50 (fun _ => rfl) (by decide) rfl ?_
        exact w_sub (A1 := [some (.ref 1), some (.int (vz i1)), some (.int (vz i2)), some (.int (vz 0))]) (And.intro rfl (And.intro rfl (And.intro rfl (And.intro rfl trivial)))) ((ih.2) v16 al10 ai18 0 hM20 (by omega) (fun b b1 b2 b3 => by rw [hd11, uP_o (by omega) (by omega)]; exact hi0q b b1 b2 b3) hm19 (mk2_0 (mk1_c (by have h9 := hi1; rw [show x3 = Z 1 0 by omega] at h9; exact h9) hd11)) (by omega))
      ·
        refine w_ldA e64_10 (fun _ => rfl) rfl ?_
        refine w_get e64_11 e1 rfl ?_
        refine w_ldA e64_14 (fun _ => rfl) rfl ?_
        refine w_get e64_15 e1 rfl ?_
        refine w_ldI e64_18 (fun _ => rfl) rfl ?_
        obtain ⟨f22, hf23, e21⟩ := tk_polys hM
        refine w_qld e64_19 e21 (by decide) (by omega) (by omega) (by decide) (hf23 _ (by omega)) ?_
        have e24 := tk_pla hM
        refine w_cv e64_20 (by decide) rfl e24 rfl (Nat.le_of_ble_eq_true rfl) (Nat.le_of_ble_eq_true rfl) (Nat.le_of_ble_eq_true rfl) (by decide) (by decide) (c10x (pm_in hM (ty_pi ((x3).toNat) (by omega))) (hk (7 + 3 * (x3).toNat) (ty_pi ((x3).toNat) (by omega))) (tk_pla hM) (tk_vars hM) hn hv (by omega)) (fun o25 v26 hq27 => ?_)
        obtain ⟨⟨K28, hp29, hkk30⟩, rfl⟩ := hq27
        obtain ⟨al31, hd32, hM33⟩ : ∃ z, z = uP al_ (7 + 3 * (x3).toNat) K28 (al_ (7 + 3 * (x3).toNat + 2)) ∧ tk Z z ai az mm sk v0 v26 := ⟨_, rfl, by have h9 := tk_pm hM (ty_pi ((x3).toNat) (by omega)) (tk_r hM (7 + 3 * (x3).toNat) 0) hp29; rw [u2_self] at h9; exact h9⟩
        refine w_iinc (A1 := [some (.ref 1), some (.int (vz i1)), some (.int (vz i2)), some (.int (vz (x3 + 1)))]) e64_23 rfl (by decide) rfl ?_
        refine w_x e64_26 (fun _ => rfl) ?_
        exact w_sub (A1 := [some (.ref 1), some (.int (vz i1)), some (.int (vz i2)), some (.int (vz (x3 + 1)))]) (And.intro rfl (And.intro rfl (And.intro rfl (And.intro rfl trivial)))) ((ih.1) v26 al31 (x3 + 1) hM33 (by omega) (fun b b1 b2 b3 => by rw [hd32, uP_o (by omega) (by omega)]; exact hi0q b b1 b2 b3) (mk1_s hi1 (by omega) hkk30 hd32) (by omega))
    ·
      intro vh al_ ai_ x3 hM hx3 hi0q hi1 hi2 hN
      have hv_ : ∀ j, 0 ≤ ai_ 5 j ∧ ai_ 5 j < 8 := by rw [hi1.2]; exact mvF_b hv
      refine w_ldI e64_51 (fun _ => rfl) rfl ?_
      refine w_ldA e64_52 (fun _ => rfl) rfl ?_
      have e34 := tk_main hM
      refine w_get e64_53 e34 rfl ?_
      refine w_ic e64_56 (by omega) (tk_r hM 1 0) (fun (h35 : Z 1 0 ≤ x3) => ?_) (fun (h35 : x3 < Z 1 0) => ?_)
      ·
        refine w_ldA e64_78 (fun _ => rfl) rfl ?_
        refine w_get e64_79 e34 rfl ?_
        refine w_ldA e64_82 (fun _ => rfl) rfl ?_
        refine w_get e64_83 e34 rfl ?_
        have e36 := tk_pla hM
        refine w_cv e64_86 (by decide) rfl e36 rfl (Nat.le_of_ble_eq_true rfl) (Nat.le_of_ble_eq_true rfl) (Nat.le_of_ble_eq_true rfl) (by decide) (by decide) (c11x (pm_in hM (rfl : ty 224 = 1)) (hk 224 (rfl : ty 224 = 1)) (tk_pla hM) (tk_vars hM) hn hv_ (by omega)) (fun o37 v38 hq39 => ?_)
        obtain ⟨⟨K40, F41, hp42, hkk43, hkk44⟩, rfl⟩ := hq39
        obtain ⟨al45, hd46, hM47⟩ : ∃ z, z = uP al_ 224 K40 F41 ∧ tk Z z ai_ az mm sk v0 v38 := ⟨_, rfl, by have h9 := tk_pm hM (rfl : ty 224 = 1) (tk_r hM 224 0) hp42; rw [u2_self] at h9; exact h9⟩
        exact w_rv e64_89 rfl ⟨⟨al45, ai_, (fun b b1 b2 b3 => by rw [hd46, uP_o (by omega) (by omega)]; exact hi0q b b1 b2 b3), ⟨hi1, mk2_c (by have h9 := hi2; rw [show x3 = Z 1 0 by omega] at h9; exact h9) hd46⟩, hM47⟩, rfl⟩
      ·
        refine w_ldA e64_59 (fun _ => rfl) rfl ?_
        refine w_get e64_60 e34 rfl ?_
        refine w_ldA e64_63 (fun _ => rfl) rfl ?_
        refine w_get e64_64 e34 rfl ?_
        refine w_ldI e64_67 (fun _ => rfl) rfl ?_
        obtain ⟨f49, hf50, e48⟩ := tk_polys hM
        refine w_qld e64_68 e48 (by decide) (by omega) (by omega) (by decide) (hf50 _ (by omega)) ?_
        have e51 := tk_pla hM
        refine w_cv e64_69 (by decide) rfl e51 rfl (Nat.le_of_ble_eq_true rfl) (Nat.le_of_ble_eq_true rfl) (Nat.le_of_ble_eq_true rfl) (by decide) (by decide) (c11x (pm_in hM (ty_pi ((x3).toNat) (by omega))) (hk (7 + 3 * (x3).toNat) (ty_pi ((x3).toNat) (by omega))) (tk_pla hM) (tk_vars hM) hn hv_ (by omega)) (fun o52 v53 hq54 => ?_)
        obtain ⟨⟨K55, F56, hp57, hkk58, hkk59⟩, rfl⟩ := hq54
        obtain ⟨al60, hd61, hM62⟩ : ∃ z, z = uP al_ (7 + 3 * (x3).toNat) K55 F56 ∧ tk Z z ai_ az mm sk v0 v53 := ⟨_, rfl, by have h9 := tk_pm hM (ty_pi ((x3).toNat) (by omega)) (tk_r hM (7 + 3 * (x3).toNat) 0) hp57; rw [u2_self] at h9; exact h9⟩
        refine w_iinc (A1 := [some (.ref 1), some (.int (vz i1)), some (.int (vz i2)), some (.int (vz (x3 + 1)))]) e64_72 rfl (by decide) rfl ?_
        refine w_x e64_75 (fun _ => rfl) ?_
        exact w_sub (A1 := [some (.ref 1), some (.int (vz i1)), some (.int (vz i2)), some (.int (vz (x3 + 1)))]) (And.intro rfl (And.intro rfl (And.intro rfl (And.intro rfl trivial)))) ((ih.2) v53 al60 ai_ (x3 + 1) hM62 (by omega) (fun b b1 b2 b3 => by rw [hd61, uP_o (by omega) (by omega)]; exact hi0q b b1 b2 b3) hi1 (mk2_s hi2 (by omega) hkk58 hkk59 hd61) (by omega))
set_option maxRecDepth 100000 in
set_option maxHeartbeats 4000000 in
theorem k64 {Z : Nat → Nat → Int} {al : Nat → Nat → Int64} {ai : Nat → Nat → Int} {az : Nat → Nat → Int32} {mm : Nat → Option Nat} {sk : Nat} {v0 vh : vm_H} (hM : tk Z al ai az mm sk v0 vh) (hk : kn Z) {i1 : Int} (hi_1 : 0 ≤ i1 ∧ i1 < 8) {i2 : Int} (hi_2 : 0 ≤ i2 ∧ i2 < 8) (hn : 0 ≤ Z 2 0 ∧ Z 2 0 ≤ 8) (hv : ∀ j, 0 ≤ ai 5 j ∧ ai 5 j < 8) (hp : 0 ≤ Z 1 0 ∧ Z 1 0 ≤ 16) : vm_Rp 3 68 64 [.ref 1, .int (vz i1), .int (vz i2)] vh (fun r v1 => (∃ (al1 : Nat → Nat → Int64) (ai1 : Nat → Nat → Int), (∀ b, b < 8 ∨ 55 ≤ b → b ≠ 225 → b ≠ 226 → al1 b = al b) ∧ (((∀ b, b ≠ 5 → ai1 b = ai b) ∧ ai1 5 = mvF (ai 5) (i1).toNat (i2).toNat) ∧ mk2 Z (ai 5) (ai1 5) al al1 (Z 1 0) (Z 1 0)) ∧ tk Z al1 ai1 az mm sk v0 v1) ∧ r = none) := by
  refine w_in (m := 1) ?_
  show vm_Wp _ _ _ 0 [some (.ref 1), some (.int (vz i1)), some (.int (vz i2)), none] [] _ _
  refine w_kI e64_0 ?_
  refine w_stI (j := 3) (A1 := [some (.ref 1), some (.int (vz i1)), some (.int (vz i2)), some (.int (vz 0))]) e64_1 (fun _ => rfl) (by decide) rfl ?_
  exact w_sub (A1 := [some (.ref 1), some (.int (vz i1)), some (.int (vz i2)), some (.int (vz 0))]) (And.intro rfl (And.intro rfl (And.intro rfl (And.intro rfl trivial)))) (((k64_L (Z := Z) (al := al) (ai := ai) (az := az) (mm := mm) (sk := sk) (v0 := v0) (i1 := i1) (i2 := i2) hk hi_1 hi_2 hn hv hp _).1) vh al 0 hM (by omega) (fun _ _ _ _ => rfl) mk1_0 (Nat.lt_succ_self _))
set_option maxRecDepth 100000 in
set_option maxHeartbeats 4000000 in
theorem k45 {Z : Nat → Nat → Int} {al : Nat → Nat → Int64} {ai : Nat → Nat → Int} {az : Nat → Nat → Int32} {mm : Nat → Option Nat} {sk : Nat} {v0 vh : vm_H} (hM : tk Z al ai az mm sk v0 vh) (hk : kn Z) {i1 : Int} (hi_1 : -2147483648 ≤ i1 ∧ i1 < 2147483648) {i2 : Int} (hi_2 : -2147483648 ≤ i2 ∧ i2 < 2147483648) (hn : 0 ≤ Z 2 0 ∧ Z 2 0 ≤ 8) (hv : ∀ j, 0 ≤ ai 5 j ∧ ai 5 j < 8) (hp : 0 ≤ Z 1 0 ∧ Z 1 0 ≤ 16) : vm_Rp 4 91 45 [.ref 1, .int (vz i1), .int (vz i2)] vh (fun r v1 => ∃ (Z1 : Nat → Nat → Int) (al1 : Nat → Nat → Int64) (ai1 : Nat → Nat → Int) (q : Int), ((Z1 = Z ∧ al1 = al ∧ ai1 = ai ∧ (¬ ((0 ≤ i1 ∧ i1 < Z 2 0) ∧ (0 ≤ i2 ∧ i2 < Z 2 0)) ∨ (∀ j : Nat, (j : Int) < Z 2 0 → ai 5 j ≠ i2) ∨ ((0 ≤ i1 ∧ i1 < Z 2 0) ∧ ai 5 (i1).toNat = i2))) ∨ ∃ (f : Int) (aia : Nat → Nat → Int), ((0 ≤ i1 ∧ i1 < Z 2 0) ∧ (0 ≤ i2 ∧ i2 < Z 2 0)) ∧ f ≠ i1 ∧ ((0 ≤ f ∧ f < Z 2 0) ∧ ai 5 f.toNat = i2) ∧ ((∀ b, b < 8 ∨ 55 ≤ b → b ≠ 225 → b ≠ 226 → al1 b = al b) ∧ (∀ b, b ≠ 5 → aia b = ai b) ∧ aia 5 = mvF (ai 5) f.toNat (i1).toNat ∧ mk2 Z (ai 5) (aia 5) al al1 (Z 1 0) (Z 1 0)) ∧ fgO Z Z1 aia ai1) ∧ r = some (.int (vz q)) ∧ kn Z1 ∧ tk Z1 al1 ai1 az mm sk v0 v1) := by
  refine w_in (m := 1) ?_
  show vm_Wp _ _ _ 0 [some (.ref 1), some (.int (vz i1)), some (.int (vz i2)), none] [] _ _
  refine w_ldA e45_0 (fun _ => rfl) rfl ?_
  have e1 := tk_main hM
  refine w_get e45_1 e1 rfl ?_
  refine w_ldI e45_4 (fun _ => rfl) rfl ?_
  have e2 := tk_pla hM
  refine w_cv e45_5 (by decide) rfl e2 rfl (Nat.le_of_ble_eq_true rfl) (Nat.le_of_ble_eq_true rfl) (Nat.le_of_ble_eq_true rfl) (by decide) (by decide) (k2 hM hk hi_1) (fun o3 v4 hq5 => ?_)
  obtain ⟨rfl, q6, h7, rfl⟩ := hq5
  have hb8 := h7
  refine w_if e45_8 (by omega) (fun (h9 : q6 = 0) => ?_) (fun (h9 : q6 ≠ 0) => ?_)
  ·
    refine w_kI e45_22 ?_
    exact w_rz e45_23 rfl (by omega) ⟨Z, al, ai, 0, Or.inl ⟨rfl, rfl, rfl, Or.inl (by omega)⟩, rfl, hk, hM⟩
  ·
    refine w_ldA e45_11 (fun _ => rfl) rfl ?_
    refine w_get e45_12 e1 rfl ?_
    refine w_ldI e45_15 (fun _ => rfl) rfl ?_
    refine w_cv e45_16 (by decide) rfl e2 rfl (Nat.le_of_ble_eq_true rfl) (Nat.le_of_ble_eq_true rfl) (Nat.le_of_ble_eq_true rfl) (by decide) (by decide) (k2 hM hk hi_2) (fun o10 v11 hq12 => ?_)
    obtain ⟨rfl, q13, h14, rfl⟩ := hq12
    have hb15 := h14
    refine w_if e45_19 (by omega) (fun (h16q : q13 ≠ 0) => ?_) (fun (h16q : q13 = 0) => ?_)
    ·
      refine w_ldA e45_24 (fun _ => rfl) rfl ?_
      refine w_get e45_25 e1 rfl ?_
      refine w_ldI e45_28 (fun _ => rfl) rfl ?_
      refine w_cv e45_29 (by decide) rfl e2 rfl (Nat.le_of_ble_eq_true rfl) (Nat.le_of_ble_eq_true rfl) (Nat.le_of_ble_eq_true rfl) (by decide) (by decide) (c5x (tk_pla hM) (tk_vars hM) hn hv hi_2) (fun o17 v18 hq19 => ?_)
      obtain ⟨rfl, q20, hq21, rfl⟩ := hq19
      have hb22 := c5b hq21
      refine w_stI (j := 3) (A1 := [some (.ref 1), some (.int (vz i1)), some (.int (vz i2)), some (.int (vz q20))]) e45_32 (fun _ => rfl) (by decide) rfl ?_
      refine w_ldI e45_33 (fun _ => rfl) rfl ?_
      refine w_kI e45_34 ?_
      refine w_ic e45_35 (by omega) (by omega) (fun (h23 : q20 = -1) => ?_) (fun (h23 : q20 ≠ -1) => ?_)
      ·
        refine w_kI e45_53 ?_
        exact w_rz e45_54 rfl (by omega) ⟨Z, al, ai, 1, Or.inl ⟨rfl, rfl, rfl, Or.inr (Or.inl (pl_no hq21 (by omega)))⟩, rfl, hk, hM⟩
      ·
        refine w_ldI e45_38 (fun _ => rfl) rfl ?_
        refine w_ldI e45_39 (fun _ => rfl) rfl ?_
        refine w_ic e45_40 (by omega) hi_1 (fun (h24 : q20 = i1) => ?_) (fun (h24 : q20 ≠ i1) => ?_)
        ·
          refine w_kI e45_53 ?_
          exact w_rz e45_54 rfl (by omega) ⟨Z, al, ai, 1, Or.inl ⟨rfl, rfl, rfl, Or.inr (Or.inr ⟨by omega, by have h9 := (pl_in hq21 (by omega)).2; rw [show q20 = i1 by omega] at h9; exact h9⟩)⟩, rfl, hk, hM⟩
        ·
          refine w_ldA e45_43 (fun _ => rfl) rfl ?_
          refine w_ldI e45_44 (fun _ => rfl) rfl ?_
          refine w_ldI e45_45 (fun _ => rfl) rfl ?_
          refine w_cv e45_46 (by decide) rfl e1 rfl (Nat.le_of_ble_eq_true rfl) (Nat.le_of_ble_eq_true rfl) (Nat.le_of_ble_eq_true rfl) (by decide) (by decide) (k64 hM hk (by omega) (by omega) hn hv hp) (fun o25 v26 hq27 => ?_)
          obtain ⟨⟨al28, ai29, hf30, hm31, hM32⟩, rfl⟩ := hq27
          refine w_ldA e45_49 (fun _ => rfl) rfl ?_
          have e33 := tk_main hM32
          refine w_cv e45_50 (by decide) rfl e33 rfl (Nat.le_of_ble_eq_true rfl) (Nat.le_of_ble_eq_true rfl) (Nat.le_of_ble_eq_true rfl) (by decide) (by decide) (k63 hM32 hk) (fun o34 v35 hq36 => ?_)
          obtain ⟨⟨Z37, ai38, hf39, hk40, hM41⟩, rfl⟩ := hq36
          refine w_kI e45_53 ?_
          exact w_rz e45_54 rfl (by omega) ⟨Z37, al28, ai38, 1, Or.inr ⟨q20, ai29, by omega, by omega, pl_in hq21 (by omega), ⟨hf30, hm31.1.1, hm31.1.2, hm31.2⟩, hf39⟩, rfl, hk40, hM41⟩
    ·
      refine w_kI e45_22 ?_
      exact w_rz e45_23 rfl (by omega) ⟨Z, al, ai, 0, Or.inl ⟨rfl, rfl, rfl, Or.inl (by omega)⟩, rfl, hk, hM⟩
set_option maxRecDepth 100000 in
set_option maxHeartbeats 4000000 in
theorem k47 {Z : Nat → Nat → Int} {al : Nat → Nat → Int64} {ai : Nat → Nat → Int} {az : Nat → Nat → Int32} {mm : Nat → Option Nat} {sk : Nat} {v0 vh : vm_H} (hM : tk Z al ai az mm sk v0 vh) (hk : kn Z) {i1 : Int} (hi_1 : -2147483648 ≤ i1 ∧ i1 < 2147483648) {l_2 : Int64} {i3 : Int} (hi_3 : -2147483648 ≤ i3 ∧ i3 < 2147483648) (hn : 0 ≤ Z 2 0 ∧ Z 2 0 ≤ 8) (hv : ∀ j, 0 ≤ ai 5 j ∧ ai 5 j < 8) (hp : 0 ≤ Z 1 0 ∧ Z 1 0 ≤ 16) (hgl : ∀ i : Nat, (i : Int) < Z 1 0 → ∀ t : Nat, (t : Int) < Z (7 + 3 * i) 0 → gl (al (7 + 3 * i + 2) t)) : vm_Rp 3 79 47 [.ref 1, .int (vz i1), .long l_2, .int (vz i3)] vh (fun r v1 => ∃ (Z1 : Nat → Nat → Int) (al1 : Nat → Nat → Int64) (ai1 : Nat → Nat → Int) (q : Int), ((Z1 = Z ∧ al1 = al ∧ ai1 = ai ∧ ((q = 0 ∧ (¬ (0 ≤ i1 ∧ i1 < Z 1 0) ∨ ¬ val (Z 2 0).toNat (vz i3))) ∨ (q = 1 ∧ (0 ≤ i1 ∧ i1 < Z 1 0) ∧ val (Z 2 0).toNat (vz i3) ∧ l_2.toInt = 0))) ∨ ((0 ≤ i1 ∧ i1 < Z 1 0) ∧ val (Z 2 0).toNat (vz i3) ∧ l_2.toInt ≠ 0 ∧ ∃ (m : Int) (K F : Nat → Int64) (t : Int) (Za : Nat → Nat → Int), adr (Z (7 + 3 * (i1).toNat) 0) (al (7 + 3 * (i1).toNat + 1)) (al (7 + 3 * (i1).toNat + 2)) (kof (ai 5) (vz i3) (Z 2 0).toNat) l_2 q m K F t ∧ Za = u2 Z (7 + 3 * (i1).toNat) 0 m ∧ al1 = uP al (7 + 3 * (i1).toNat) K F ∧ (((q = 0 ∨ (q = 1 ∧ az 55 (i1).toNat = 0)) ∧ Z1 = Za ∧ ai1 = ai) ∨ (q = 1 ∧ az 55 (i1).toNat ≠ 0 ∧ fgO Za Z1 ai ai1)))) ∧ r = some (.int (vz q)) ∧ kn Z1 ∧ tk Z1 al1 ai1 az mm sk v0 v1) := by
  refine w_in (m := 0) ?_
  show vm_Wp _ _ _ 0 [some (.ref 1), some (.int (vz i1)), some (.long l_2), none, some (.int (vz i3))] [] _ _
  refine w_ldA e47_0 (fun _ => rfl) rfl ?_
  refine w_ldI e47_1 (fun _ => rfl) rfl ?_
  have e1 := tk_main hM
  refine w_cv e47_2 (by decide) rfl e1 rfl (Nat.le_of_ble_eq_true rfl) (Nat.le_of_ble_eq_true rfl) (Nat.le_of_ble_eq_true rfl) (by decide) (by decide) (k59 hM hk hi_1) (fun o2 v3 hq4 => ?_)
  obtain ⟨rfl, q5, h6, rfl⟩ := hq4
  have hb7 := h6
  refine w_if e47_5 (by omega) (fun (h8 : q5 = 0) => ?_) (fun (h8 : q5 ≠ 0) => ?_)
  ·
    refine w_kI e47_20 ?_
    exact w_rz e47_21 rfl (by omega) ⟨Z, al, ai, 0, Or.inl ⟨rfl, rfl, rfl, Or.inl ⟨rfl, Or.inl (by omega)⟩⟩, rfl, hk, hM⟩
  ·
    refine w_ldA e47_8 (fun _ => rfl) rfl ?_
    refine w_get e47_9 e1 rfl ?_
    refine w_ldI e47_12 (fun _ => rfl) rfl ?_
    have e9 := tk_pla hM
    refine w_cv e47_14 (by decide) rfl e9 rfl (Nat.le_of_ble_eq_true rfl) (Nat.le_of_ble_eq_true rfl) (Nat.le_of_ble_eq_true rfl) (by decide) (by decide) (c7x (tk_pla hM) (tk_vars hM) hn hv hi_3) (fun o10 v11 hq12 => ?_)
    obtain ⟨rfl, q13, h14, rfl⟩ := hq12
    have hb15 := h14.1
    refine w_if e47_17 (by omega) (fun (h16q : q13 ≠ 0) => ?_) (fun (h16q : q13 = 0) => ?_)
    ·
      refine w_ldL e47_22 (fun _ => rfl) rfl ?_
      refine w_x e47_23 (fun _ => rfl) ?_
      refine w_lcmp e47_24 (fun q17 (h18 : -1 ≤ q17 ∧ q17 ≤ 1) h19 h20 => ?_)
      refine w_if e47_25 (by omega) (fun (h21 : q17 ≠ 0) => ?_) (fun (h21 : q17 = 0) => ?_)
      ·
        refine w_ldA e47_30 (fun _ => rfl) rfl ?_
        refine w_get e47_31 e1 rfl ?_
        refine w_ldI e47_34 (fun _ => rfl) rfl ?_
        obtain ⟨f23, hf24, e22⟩ := tk_polys hM
        refine w_qld e47_35 e22 (by decide) (by omega) (by omega) (by decide) (hf24 _ (by omega)) ?_
        refine w_ldA e47_36 (fun _ => rfl) rfl ?_
        refine w_get e47_37 e1 rfl ?_
        refine w_ldI e47_40 (fun _ => rfl) rfl ?_
        refine w_cv e47_42 (by decide) rfl e9 rfl (Nat.le_of_ble_eq_true rfl) (Nat.le_of_ble_eq_true rfl) (Nat.le_of_ble_eq_true rfl) (by decide) (by decide) (c8x (tk_pla hM) (tk_vars hM) hn hv hi_3) (fun o25 v26 hq27 => ?_)
        obtain ⟨rfl, rfl⟩ := hq27
        refine w_ldL e47_45 (fun _ => rfl) rfl ?_
        have e28 := tk_poly hM (ty_pi ((i1).toNat) (by omega))
        have hk29 := hk (7 + 3 * (i1).toNat) (ty_pi ((i1).toNat) (by omega))
        refine w_cv e47_46 (by decide) rfl e28 rfl (Nat.le_of_ble_eq_true rfl) (Nat.le_of_ble_eq_true rfl) (Nat.le_of_ble_eq_true rfl) (by decide) (by decide) (c23x (pm_in hM (ty_pi ((i1).toNat) (by omega))) (hk (7 + 3 * (i1).toNat) (ty_pi ((i1).toNat) (by omega))) (fun h9 => absurd (h19.mpr (Int64.toInt_inj.mp (h9.trans rfl))) (by omega)) (hgl (i1).toNat (by omega))) (fun o30 v31 hq32 => ?_)
        obtain ⟨q33, m34, K35, F36, t37, hp38, ha39, rfl⟩ := hq32
        have hab := adr_b ha39 (hk (7 + 3 * (i1).toNat) (ty_pi ((i1).toNat) (by omega)))
        obtain ⟨Z40, al41, hd42, hd43, hM44⟩ : ∃ y z, y = u2 Z (7 + 3 * (i1).toNat) 0 m34 ∧ z = uP al (7 + 3 * (i1).toNat) K35 F36 ∧ tk y z ai az mm sk v0 v31 := ⟨_, _, rfl, rfl, tk_pm hM (ty_pi ((i1).toNat) (by omega)) (by omega) hp38⟩
        have hk45 := kn_u hk hd42 (fun _ => hab.1)
        refine w_if e47_49 (by omega) (fun (h46 : q33 ≠ 0) => ?_) (fun (h46 : q33 = 0) => ?_)
        ·
          refine w_ldA e47_54 (fun _ => rfl) rfl ?_
          have e47 := tk_main hM44
          refine w_get e47_55 e47 rfl ?_
          refine w_ldI e47_58 (fun _ => rfl) rfl ?_
          have e48 := tk_hyps hM44
          refine w_zldO e47_59 e48 (by omega) (by omega) (by decide) (fun q49 h50 h51 => ?_)
          refine w_if e47_60 h50 (fun (h52 : q49 = 0) => ?_) (fun (h52 : q49 ≠ 0) => ?_)
          ·
            refine w_kI e47_67 ?_
            exact w_rz e47_68 rfl (by omega) ⟨Z40, al41, ai, 1, Or.inr ⟨by omega, h14.2.mp (by omega), (fun h9 => absurd (h19.mpr (Int64.toInt_inj.mp (h9.trans rfl))) (by omega)), m34, K35, F36, t37, Z40, by rw [show (1 : Int) = q33 by omega]; exact ha39, hd42, hd43, Or.inl ⟨Or.inr ⟨rfl, by rw [h51, show q49 = 0 by omega]; rfl⟩, rfl, rfl⟩⟩, rfl, hk45, hM44⟩
          ·
            refine w_ldA e47_63 (fun _ => rfl) rfl ?_
            refine w_cv e47_64 (by decide) rfl e47 rfl (Nat.le_of_ble_eq_true rfl) (Nat.le_of_ble_eq_true rfl) (Nat.le_of_ble_eq_true rfl) (by decide) (by decide) (k63 hM44 hk45) (fun o53 v54 hq55 => ?_)
            obtain ⟨⟨Z56, ai57, hf58, hk59, hM60⟩, rfl⟩ := hq55
            refine w_kI e47_67 ?_
            exact w_rz e47_68 rfl (by omega) ⟨Z56, al41, ai57, 1, Or.inr ⟨by omega, h14.2.mp (by omega), (fun h9 => absurd (h19.mpr (Int64.toInt_inj.mp (h9.trans rfl))) (by omega)), m34, K35, F36, t37, Z40, by rw [show (1 : Int) = q33 by omega]; exact ha39, hd42, hd43, Or.inr ⟨rfl, by rw [h51]; exact fun h9 => absurd ((vz_inj h50 (by decide : -2147483648 ≤ (0 : Int) ∧ (0 : Int) < 2147483648)).mp (h9.trans rfl)) (by omega), hf58⟩⟩, rfl, hk59, hM60⟩
        ·
          refine w_kI e47_52 ?_
          exact w_rz e47_53 rfl (by omega) ⟨Z40, al41, ai, 0, Or.inr ⟨by omega, h14.2.mp (by omega), (fun h9 => absurd (h19.mpr (Int64.toInt_inj.mp (h9.trans rfl))) (by omega)), m34, K35, F36, t37, Z40, by rw [show (0 : Int) = q33 by omega]; exact ha39, hd42, hd43, Or.inl ⟨Or.inl rfl, rfl, rfl⟩⟩, rfl, hk45, hM44⟩
      ·
        refine w_kI e47_28 ?_
        exact w_rz e47_29 rfl (by omega) ⟨Z, al, ai, 1, Or.inl ⟨rfl, rfl, rfl, Or.inr ⟨rfl, by omega, h14.2.mp (by omega), (by rw [h19.mp (by omega)]; rfl)⟩⟩, rfl, hk, hM⟩
    ·
      refine w_kI e47_20 ?_
      exact w_rz e47_21 rfl (by omega) ⟨Z, al, ai, 0, Or.inl ⟨rfl, rfl, rfl, Or.inl ⟨rfl, Or.inr (fun h9 => by have h8 := h14.2.mpr h9; omega)⟩⟩, rfl, hk, hM⟩
set_option maxRecDepth 100000 in
set_option maxHeartbeats 4000000 in
theorem k55 {Z : Nat → Nat → Int} {al : Nat → Nat → Int64} {ai : Nat → Nat → Int} {az : Nat → Nat → Int32} {mm : Nat → Option Nat} {sk : Nat} {v0 vh : vm_H} (hM : tk Z al ai az mm sk v0 vh) (hk : kn Z) {i1 : Int} (hi_1 : -2147483648 ≤ i1 ∧ i1 < 2147483648) {l_2 : Int64} (hn : 0 ≤ Z 2 0 ∧ Z 2 0 ≤ 8) : vm_Rp 1 21 55 [.ref 1, .int (vz i1), .long l_2] vh (fun r v1 => ∃ (al1 : Nat → Nat → Int64) (q : Int), ((q = 0 ∧ ¬ (0 ≤ i1 ∧ i1 < Z 2 0) ∧ al1 = al) ∨ (q = 1 ∧ (0 ≤ i1 ∧ i1 < Z 2 0) ∧ al1 = uA al 4 (vp_updL (al 4) (i1).toNat l_2))) ∧ r = some (.int (vz q)) ∧ tk Z al1 ai az mm sk v0 v1) := by
  refine w_in (m := 0) ?_
  show vm_Wp _ _ _ 0 [some (.ref 1), some (.int (vz i1)), some (.long l_2), none] [] _ _
  refine w_ldA e55_0 (fun _ => rfl) rfl ?_
  have e1 := tk_main hM
  refine w_get e55_1 e1 rfl ?_
  refine w_ldI e55_4 (fun _ => rfl) rfl ?_
  have e2 := tk_pla hM
  refine w_cv e55_5 (by decide) rfl e2 rfl (Nat.le_of_ble_eq_true rfl) (Nat.le_of_ble_eq_true rfl) (Nat.le_of_ble_eq_true rfl) (by decide) (by decide) (k2 hM hk hi_1) (fun o3 v4 hq5 => ?_)
  obtain ⟨rfl, q6, h7, rfl⟩ := hq5
  have hb8 := h7
  refine w_if e55_8 (by omega) (fun (h9 : q6 ≠ 0) => ?_) (fun (h9 : q6 = 0) => ?_)
  ·
    refine w_ldA e55_13 (fun _ => rfl) rfl ?_
    refine w_get e55_14 e1 rfl ?_
    refine w_get e55_17 e2 rfl ?_
    refine w_ldI e55_20 (fun _ => rfl) rfl ?_
    refine w_ldL e55_21 (fun _ => rfl) rfl ?_
    have e10 := tk_pnt hM
    refine w_lst e55_22 e10 (by omega) (by omega) (by decide) (fun v13 b11 h12 => ?_)
    obtain ⟨al14, hd15, hM16⟩ : ∃ z, z = uA al 4 (vp_updL (al 4) (i1).toNat l_2) ∧ tk Z z ai az mm sk v0 v13 := ⟨_, rfl, tk_P hM b11 h12⟩
    refine w_kI e55_23 ?_
    exact w_rz e55_24 rfl (by omega) ⟨al14, 1, Or.inr ⟨rfl, by omega, hd15⟩, rfl, hM16⟩
  ·
    refine w_kI e55_11 ?_
    exact w_rz e55_12 rfl (by omega) ⟨al, 0, Or.inl ⟨rfl, by omega, rfl⟩, rfl, hM⟩
