set_option maxRecDepth 100000 in
set_option maxHeartbeats 4000000 in
theorem c45x {θ : tc_S} {V : Nat → Int} {Nf : Nat → Int} {Kf Ff : Nat → Nat → Int64} {vh : vm_H} (hT : tc θ ((false, false), vh) vh) (hV : vm_at vh 5 = some (.inl (0, 8, .inl (fun j => vz (V j))))) (hO : onto V θ.1) (hC : ∀ i, i < 16 → cP vh i (Nf i) (Kf i) (Ff i)) {i1 i2 : Int} (hi_1 : -2147483648 ≤ i1 ∧ i1 < 2147483648) (hi_2 : -2147483648 ≤ i2 ∧ i2 < 2147483648) : vm_Rp 4 91 45 [.ref 1, .int (vz i1), .int (vz i2)] vh (fun r v1 => ∃ (q : Int) (V1 : Nat → Int) (Kg Fg : Nat → Nat → Int64), kp vh v1 ∧ tc θ ((false, false), v1) v1 ∧ vm_at v1 5 = some (.inl (0, 8, .inl (fun j => vz (V1 j)))) ∧ onto V1 θ.1 ∧ (∀ i, i < 16 → cP v1 i (Nf i) (Kg i) (Fg i)) ∧ ((V1 = V ∧ Kg = Kf ∧ Fg = Ff) ∨ mv2 V V1 θ.1 θ.2.1 Nf Kf Ff Kg Fg θ.2.1) ∧ ((0 ≤ q ∧ q ≤ 1) ∧ (q = 1 ↔ (0 ≤ i2 ∧ i2 < θ.1 ∧ 0 ≤ i1 ∧ i1 < θ.1))) ∧ r = some (.int (vz q))) := by
  have hok := hT.1.1
  refine w_in (m := 1) ?_
  show vm_Wp _ _ _ 0 [some (.ref 1), some (.int (vz i1)), some (.int (vz i2)), none] [] _ _
  obtain ⟨m2, m3, m4, m5, hm6, hm7, hm8, hm9, hm10, hm11, e1⟩ := tc_main hT
  have eP := (tc_places hT).2
  refine w_ldA e45_0 (fun _ => rfl) rfl ?_
  refine w_get e45_1 e1 rfl ?_
  refine w_ldI e45_4 (fun _ => rfl) rfl ?_
  refine w_cv e45_5 (by decide) rfl eP rfl (Nat.le_of_ble_eq_true rfl) (Nat.le_of_ble_eq_true rfl) (Nat.le_of_ble_eq_true rfl) (by decide) (by decide) (c2 hT hi_1) (fun o v hq => ?_)
  obtain ⟨rfl, q1, h1, rfl⟩ := hq
  refine w_if e45_8 (by omega) (fun (h0 : q1 = 0) => ?_) (fun (h0 : q1 ≠ 0) => ?_)
  · refine w_kI e45_22 ?_
    exact w_rz e45_23 rfl (by omega) ⟨0, V, Kf, Ff, fun _ _ => rfl, hT, hV, hO, hC, Or.inl ⟨rfl, rfl, rfl⟩, by omega, rfl⟩
  · refine w_ldA e45_11 (fun _ => rfl) rfl ?_
    refine w_get e45_12 e1 rfl ?_
    refine w_ldI e45_15 (fun _ => rfl) rfl ?_
    refine w_cv e45_16 (by decide) rfl eP rfl (Nat.le_of_ble_eq_true rfl) (Nat.le_of_ble_eq_true rfl) (Nat.le_of_ble_eq_true rfl) (by decide) (by decide) (c2 hT hi_2) (fun o v hq => ?_)
    obtain ⟨rfl, q2, h2, rfl⟩ := hq
    refine w_if e45_19 (by omega) (fun (h3 : q2 ≠ 0) => ?_) (fun (h3 : q2 = 0) => ?_)
    · refine w_ldA e45_24 (fun _ => rfl) rfl ?_
      refine w_get e45_25 e1 rfl ?_
      refine w_ldI e45_28 (fun _ => rfl) rfl ?_
      refine w_cv e45_29 (by decide) rfl eP rfl (Nat.le_of_ble_eq_true rfl) (Nat.le_of_ble_eq_true rfl) (Nat.le_of_ble_eq_true rfl) (by decide) (by decide) (c5x eP hV hok hO.1 hi_2) (fun o v hq => ?_)
      obtain ⟨rfl, q3, h4, rfl⟩ := hq
      have h4b : -1 ≤ q3 ∧ q3 < 8 := by
        rcases h4 with h4 | h4
        · omega
        · omega
      refine w_stI (j := 3) (A1 := [some (.ref 1), some (.int (vz i1)), some (.int (vz i2)), some (.int (vz q3))]) e45_32 (fun _ => rfl) (by decide) rfl ?_
      refine w_ldI e45_33 (fun _ => rfl) rfl ?_
      refine w_kI e45_34 ?_
      refine w_ic e45_35 (by omega) (by omega) (fun (h5 : q3 = -1) => ?_) (fun (h5 : q3 ≠ -1) => ?_)
      · refine w_kI e45_53 ?_
        exact w_rz e45_54 rfl (by omega) ⟨1, V, Kf, Ff, fun _ _ => rfl, hT, hV, hO, hC, Or.inl ⟨rfl, rfl, rfl⟩, by omega, rfl⟩
      · have h6 : 0 ≤ q3 ∧ q3 < θ.1 := by
          rcases h4 with h4 | h4
          · omega
          · omega
        refine w_ldI e45_38 (fun _ => rfl) rfl ?_
        refine w_ldI e45_39 (fun _ => rfl) rfl ?_
        refine w_ic e45_40 (by omega) (by omega) (fun (h7 : q3 = i1) => ?_) (fun (h7 : q3 ≠ i1) => ?_)
        · refine w_kI e45_53 ?_
          exact w_rz e45_54 rfl (by omega) ⟨1, V, Kf, Ff, fun _ _ => rfl, hT, hV, hO, hC, Or.inl ⟨rfl, rfl, rfl⟩, by omega, rfl⟩
        · refine w_ldA e45_43 (fun _ => rfl) rfl ?_
          refine w_ldI e45_44 (fun _ => rfl) rfl ?_
          refine w_ldI e45_45 (fun _ => rfl) rfl ?_
          refine w_cv e45_46 (by decide) rfl e1 rfl (Nat.le_of_ble_eq_true rfl) (Nat.le_of_ble_eq_true rfl) (Nat.le_of_ble_eq_true rfl) (by decide) (by decide) (c64x hT hV hO hC h6 (by omega)) (fun o v hq => ?_)
          obtain ⟨⟨V1, Kg, Fg, hkb, hT2, hV2, hO2, hC2, hm2⟩, rfl⟩ := hq
          refine w_ldA e45_49 (fun _ => rfl) rfl ?_
          obtain ⟨r2, r3, r4, r5, g6, g7, g8, g9, g10, g11, e4⟩ := tc_main hT2
          refine w_cv e45_50 (by decide) rfl e4 rfl (Nat.le_of_ble_eq_true rfl) (Nat.le_of_ble_eq_true rfl) (Nat.le_of_ble_eq_true rfl) (by decide) (by decide) (c63 rfl (tc_fu hT2)) (fun o w hq => ?_)
          obtain ⟨hT3, rfl⟩ := hq
          have hkp := tc_keep hT3
          refine w_kI e45_53 ?_
          exact w_rz e45_54 rfl (by omega) ⟨1, V1, Kg, Fg, kp_t hkb (kp_c hT3), tc_rf5 hT3, (hkp 5 (by decide)).trans hV2, hO2, fun i hi => cP_keep (hC2 i hi) hi (hk7 hkp), Or.inr hm2, by omega, rfl⟩
    · refine w_kI e45_22 ?_
      exact w_rz e45_23 rfl (by omega) ⟨0, V, Kf, Ff, fun _ _ => rfl, hT, hV, hO, hC, Or.inl ⟨rfl, rfl, rfl⟩, by omega, rfl⟩
