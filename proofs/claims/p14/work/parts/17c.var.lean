theorem vd_in {θ : tc_S} {vh : vm_H} {V : Nat → Int} (hT : tc θ ((false, false), vh) vh) (hV : vm_at vh 5 = some (.inl (0, 8, .inl (fun j => vz (V j))))) : vd θ.1 V vh vh := ⟨rfl, fun _ _ _ _ => rfl, (tc_places hT).2, tc_free hT, hV⟩
set_option maxRecDepth 100000 in
set_option maxHeartbeats 4000000 in
theorem c44x {θ : tc_S} {vh : vm_H} (hT : tc θ ((false, false), vh) vh) {V : Nat → Int} (hV : vm_at vh 5 = some (.inl (0, 8, .inl (fun j => vz (V j))))) (hO : onto V θ.1) {i1 : Int} (hi_1 : 0 ≤ i1 ∧ i1 ≤ 1) : vm_Rp 2 43 44 [.ref 1, .int (vz i1)] vh (fun r v1 => ∃ (q n1 : Int) (V1 : Nat → Int), kp vh v1 ∧ tc (n1, θ.2) ((false, false), v1) v1 ∧ vm_at v1 5 = some (.inl (0, 8, .inl (fun j => vz (V1 j)))) ∧ onto V1 n1 ∧ (∀ b, 6 ≤ b ∧ b < 55 → vm_at v1 b = vm_at vh b) ∧ ((θ.1 = 8 ∧ q = -1 ∧ n1 = θ.1 ∧ V1 = V) ∨ (θ.1 < 8 ∧ q = θ.1 ∧ n1 = θ.1 + 1 ∧ V1 = u1 V (θ.1).toNat θ.1)) ∧ r = some (.int (vz q))) := by
  have hok := hT.1.1
  refine w_in (m := 1) ?_
  show vm_Wp _ _ _ 0 [some (.ref 1), some (.int (vz i1)), none] [] _ _
  refine w_ldA e44_0 (fun _ => rfl) rfl ?_
  obtain ⟨m2, m3, m4, m5, hm6, hm7, hm8, hm9, hm10, hm11, e1⟩ := tc_main hT
  refine w_get e44_1 e1 rfl ?_
  refine w_ldI e44_4 (fun _ => rfl) rfl ?_
  refine w_cv e44_5 (by decide) rfl (tc_places hT).2 rfl (Nat.le_of_ble_eq_true rfl) (Nat.le_of_ble_eq_true rfl) (Nat.le_of_ble_eq_true rfl) (by decide) (by decide) (c3x (vd_in hT hV) hok hO hi_1) (fun o v hq => ?_)
  obtain ⟨q, n1, V1, hv, ho, hr, rfl⟩ := hq
  have hn1 : 0 ≤ n1 ∧ n1 ≤ 8 := by omega
  have hT2 := tc_vd hT hv hn1 ho.1
  refine w_stI (j := 2) (A1 := [some (.ref 1), some (.int (vz i1)), some (.int (vz q))]) e44_8 (fun _ => rfl) (by decide) rfl ?_
  refine w_ldI e44_9 (fun _ => rfl) rfl ?_
  refine w_kI e44_10 ?_
  refine w_ic e44_11 (by omega) (by omega) (fun (h5 : q = -1) => ?_) (fun (h5 : q ≠ -1) => ?_)
  · refine w_ldI e44_18 (fun _ => rfl) rfl ?_
    exact w_ri e44_19 rfl ⟨q, n1, V1, kp_vd hv, hT2, hv.2.2.2.2, ho, fun b hb => hv.2.1 b (by omega) (by omega) (by omega), hr, rfl⟩
  · refine w_ldA e44_14 (fun _ => rfl) rfl ?_
    obtain ⟨r2, r3, r4, r5, g6, g7, g8, g9, g10, g11, e4⟩ := tc_main hT2
    refine w_cv e44_15 (by decide) rfl e4 rfl (Nat.le_of_ble_eq_true rfl) (Nat.le_of_ble_eq_true rfl) (Nat.le_of_ble_eq_true rfl) (by decide) (by decide) (c63 rfl (tc_fu hT2)) (fun o w hq => ?_)
    obtain ⟨hT3, rfl⟩ := hq
    have hkp := tc_keep hT3
    refine w_ldI e44_18 (fun _ => rfl) rfl ?_
    exact w_ri e44_19 rfl ⟨q, n1, V1, kp_t (kp_vd hv) (kp_c hT3), tc_rf5 hT3, (hkp 5 (by decide)).trans hv.2.2.2.2, ho, fun b hb => (hkp b (by omega)).trans (hv.2.1 b (by omega) (by omega) (by omega)), hr, rfl⟩
