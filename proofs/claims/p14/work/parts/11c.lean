set_option maxRecDepth 100000 in
set_option maxHeartbeats 4000000 in
theorem c34 {θ : tc_S} {v0 : (Bool × Bool) × vm_H} {vh : vm_H} (hT : tc θ v0 vh) : vm_Rp 0 0 34 [.ref 219] vh (fun r v1 => (tc θ v0 v1) ∧ r = none) := by
  have hok : (0 ≤ θ.1 ∧ θ.1 ≤ 8) ∧ (0 ≤ θ.2.1 ∧ θ.2.1 ≤ 16) ∧ (-2147483648 ≤ θ.2.2.2.1 ∧ θ.2.2.2.1 < 2147483648) ∧ (0 ≤ θ.2.2.2.2 ∧ θ.2.2.2.2 ≤ 8) := hT.1
  refine w_in (m := 2) ?_
  show vm_Wp _ _ _ 0 [some (.ref 219), none, none] [] _ _
  refine w_ldA e34_0 (fun _ => rfl) rfl ?_
  obtain ⟨k2, k3, k4, k5, s7, hk6, hs8, e1⟩ := tc_stp hT
  refine w_get e34_1 e1 rfl ?_
  refine w_stA (j := 1) (A1 := [some (.ref 219), some (.ref k2), none]) e34_4 (fun _ => rfl) (by decide) rfl ?_
  refine w_ldA e34_5 (fun _ => rfl) rfl ?_
  refine w_get e34_6 e1 rfl ?_
  refine w_stA (j := 2) (A1 := [some (.ref 219), some (.ref k2), some (.ref k3)]) e34_9 (fun _ => rfl) (by decide) rfl ?_
  refine w_ldA e34_10 (fun _ => rfl) rfl ?_
  refine w_ldA e34_11 (fun _ => rfl) rfl ?_
  refine w_get e34_12 e1 rfl ?_
  refine w_put e34_15 e1 (Nat.le_of_ble_eq_true rfl) rfl (fun v11 b9 h10 => ?_)
  have h10 : vm_at v11 219 = some (.inr (3, [.ref k4, .ref k3, .ref k4, .ref k5, .int (vz s7)])) := h10
  have hT12 := ts_stp hT ⟨hk6.2.2.1, hk6.2.1, hk6.2.2.1, hk6.2.2.2⟩ (by omega) b9 h10
  refine w_ldA e34_18 (fun _ => rfl) rfl ?_
  refine w_ldA e34_19 (fun _ => rfl) rfl ?_
  refine w_get e34_20 h10 rfl ?_
  refine w_put e34_23 h10 (Nat.le_of_ble_eq_true rfl) rfl (fun v15 b13 h14 => ?_)
  have h14 : vm_at v15 219 = some (.inr (3, [.ref k4, .ref k5, .ref k4, .ref k5, .int (vz s7)])) := h14
  have hT16 := ts_stp hT12 ⟨hk6.2.2.1, hk6.2.2.2, hk6.2.2.1, hk6.2.2.2⟩ (by omega) b13 h14
  refine w_ldA e34_26 (fun _ => rfl) rfl ?_
  refine w_ldA e34_27 (fun _ => rfl) rfl ?_
  refine w_put e34_28 h14 (Nat.le_of_ble_eq_true rfl) rfl (fun v19 b17 h18 => ?_)
  have h18 : vm_at v19 219 = some (.inr (3, [.ref k4, .ref k5, .ref k2, .ref k5, .int (vz s7)])) := h18
  have hT20 := ts_stp hT16 ⟨hk6.2.2.1, hk6.2.2.2, hk6.1, hk6.2.2.2⟩ (by omega) b17 h18
  refine w_ldA e34_31 (fun _ => rfl) rfl ?_
  refine w_ldA e34_32 (fun _ => rfl) rfl ?_
  refine w_put e34_33 h18 (Nat.le_of_ble_eq_true rfl) rfl (fun v23 b21 h22 => ?_)
  have h22 : vm_at v23 219 = some (.inr (3, [.ref k4, .ref k5, .ref k2, .ref k3, .int (vz s7)])) := h22
  have hT24 := ts_stp hT20 ⟨hk6.2.2.1, hk6.2.2.2, hk6.1, hk6.2.1⟩ (by omega) b21 h22
  exact w_rv e34_36 rfl ⟨hT24, rfl⟩
set_option maxRecDepth 100000 in
set_option maxHeartbeats 4000000 in
theorem c36 {θ : tc_S} {v0 : (Bool × Bool) × vm_H} {vh : vm_H} (hT : tc θ v0 vh) {a1 : Nat} (ha1 : ty a1 = 1) (hw1 : wok v0 a1) {k1 : Nat} {k2 : Nat} {k3 : Nat} {k4 : Nat} {sn : Int} (gc_0 : vm_at vh 219 = some (.inr (3, [.ref k1, .ref k2, .ref k3, .ref k4, .int (vz sn)]))) (gk_0 : ty k1 = 14 ∧ ty k2 = 14 ∧ ty k3 = 14 ∧ ty k4 = 14) (gi_0 : 0 ≤ sn ∧ sn ≤ 60) : vm_Rp 1 30 36 [.ref 219, .ref a1] vh (fun r v1 => (tc θ v0 v1) ∧ r = none) := by
  have hok : (0 ≤ θ.1 ∧ θ.1 ≤ 8) ∧ (0 ≤ θ.2.1 ∧ θ.2.1 ≤ 16) ∧ (-2147483648 ≤ θ.2.2.2.1 ∧ θ.2.2.2.1 < 2147483648) ∧ (0 ≤ θ.2.2.2.2 ∧ θ.2.2.2.2 ≤ 8) := hT.1
  refine w_in (m := 0) ?_
  show vm_Wp _ _ _ 0 [some (.ref 219), some (.ref a1)] [] _ _
  refine w_ldA e36_0 (fun _ => rfl) rfl ?_
  refine w_get e36_1 gc_0 rfl ?_
  refine w_kI e36_4 ?_
  refine w_ldA e36_5 (fun _ => rfl) rfl ?_
  obtain ⟨c2, hc3, e1⟩ := tc_poly hT ha1
  refine w_get e36_6 e1 rfl ?_
  refine w_kI e36_9 ?_
  refine w_ldA e36_10 (fun _ => rfl) rfl ?_
  refine w_get e36_11 gc_0 rfl ?_
  obtain ⟨f5, e4⟩ := tc_big hT gk_0.1
  obtain ⟨f7, e6⟩ := tc_l60 hT (ty_p ha1).1
  refine w_acL e36_14 e4 e6 (by omega) (by omega) (by omega) (by omega) (by omega) (by decide) (by decide) (Nat.le_of_ble_eq_true rfl) (by decide) (by decide) (fun v8 b9 h10 => ?_)
  have hT11 := ts_l60 hT (ty_p ha1).1 (wok_s hw1) b9 h10
  have e12 := (b9.2 219 (ty_ne (rfl : ty 219 = 13) (ty_p ha1).1 (by decide))).trans gc_0
  have e13 := (b9.2 a1 (by omega)).trans e1
  have e14 := (b9.2 k1 (ty_ne gk_0.1 (ty_p ha1).1 (by decide))).trans e4
  refine w_ldA e36_17 (fun _ => rfl) rfl ?_
  refine w_get e36_18 e12 rfl ?_
  refine w_kI e36_21 ?_
  refine w_ldA e36_22 (fun _ => rfl) rfl ?_
  refine w_get e36_23 e13 rfl ?_
  refine w_kI e36_26 ?_
  refine w_ldA e36_27 (fun _ => rfl) rfl ?_
  refine w_get e36_28 e12 rfl ?_
  obtain ⟨f16, e15⟩ := tc_big hT11 gk_0.2.1
  obtain ⟨f18, e17⟩ := tc_l60 hT11 (ty_p ha1).2
  refine w_acL e36_31 e15 e17 (by omega) (by omega) (by omega) (by omega) (by omega) (by decide) (by decide) (Nat.le_of_ble_eq_true rfl) (by decide) (by decide) (fun v19 b20 h21 => ?_)
  have hT22 := ts_l60 hT11 (ty_p ha1).2 (wok_s hw1) b20 h21
  have e23 := (b20.2 219 (ty_ne (rfl : ty 219 = 13) (ty_p ha1).2 (by decide))).trans e12
  have e24 := (b20.2 a1 (by omega)).trans e13
  have e25 := (b20.2 k1 (ty_ne gk_0.1 (ty_p ha1).2 (by decide))).trans e14
  have e26 := (b20.2 k2 (ty_ne gk_0.2.1 (ty_p ha1).2 (by decide))).trans e15
  refine w_ldA e36_34 (fun _ => rfl) rfl ?_
  refine w_ldA e36_35 (fun _ => rfl) rfl ?_
  refine w_get e36_36 e23 rfl ?_
  refine w_put e36_39 e24 (Nat.le_of_ble_eq_true rfl) rfl (fun v29 b27 h28 => ?_)
  have h28 : vm_at v29 a1 = some (.inr (1, [.ref (a1 + 1), .ref (a1 + 2), .int (vz sn)])) := h28
  have hT30 := ts_poly hT22 ha1 (by omega) hw1 b27 h28
  have e31 := (b27.2 219 (ty_ne (rfl : ty 219 = 13) ha1 (by decide))).trans e23
  have e32 := (b27.2 k1 (ty_ne gk_0.1 ha1 (by decide))).trans e25
  have e33 := (b27.2 k2 (ty_ne gk_0.2.1 ha1 (by decide))).trans e26
  exact w_rv e36_42 rfl ⟨hT30, rfl⟩
set_option maxRecDepth 100000 in
set_option maxHeartbeats 4000000 in
theorem c35_L {θ : tc_S} {v0 : (Bool × Bool) × vm_H} {vh : vm_H} (hT : tc θ v0 vh) {k1 : Nat} {k2 : Nat} {k3 : Nat} {k4 : Nat} {sn : Int} (gc_0 : vm_at vh 219 = some (.inr (3, [.ref k1, .ref k2, .ref k3, .ref k4, .int (vz sn)]))) (gk_0 : ty k1 = 14 ∧ ty k2 = 14 ∧ ty k3 = 14 ∧ ty k4 = 14) (gi_0 : 0 ≤ sn ∧ sn ≤ 3660) : ∀ N : Nat, (∀ (x1 : Int), (0 ≤ x1 ∧ x1 ≤ 3660) → (sn ≤ 60) → ((3660 - x1 : Int).toNat < N) → vm_Wp 1 21 35 13 [some (.ref 219), some (.int (vz x1))] [] vh (vq_P 35 (fun r v1 => vh = v1 ∧ ∃ q : Int, ((0 ≤ q ∧ q ≤ 1) ∧ (q = 0 ∨ sn ≤ 60)) ∧ r = some (.int (vz q))))) := by
  intro N
  induction N with
  | zero => exact (by intros; omega)
  | succ N ih =>
    ·
      intro x1 hx1 hi0 hN
      have hok : (0 ≤ θ.1 ∧ θ.1 ≤ 8) ∧ (0 ≤ θ.2.1 ∧ θ.2.1 ≤ 16) ∧ (-2147483648 ≤ θ.2.2.2.1 ∧ θ.2.2.2.1 < 2147483648) ∧ (0 ≤ θ.2.2.2.2 ∧ θ.2.2.2.2 ≤ 8) := hT.1
      refine w_ldI e35_13 (fun _ => rfl) rfl ?_
      refine w_ldA e35_14 (fun _ => rfl) rfl ?_
      refine w_get e35_15 gc_0 rfl ?_
      refine w_ic e35_18 (by omega) (by omega) (fun (h2 : sn ≤ x1) => ?_) (fun (h2 : x1 < sn) => ?_)
      ·
        refine w_kI e35_56 ?_
        exact w_rz e35_57 rfl (by omega) ⟨rfl, 1, (by omega), rfl⟩
      ·
        refine w_ldA e35_21 (fun _ => rfl) rfl ?_
        refine w_get e35_22 gc_0 rfl ?_
        refine w_ldI e35_25 (fun _ => rfl) rfl ?_
        obtain ⟨f4, e3⟩ := tc_big hT gk_0.2.1
        refine w_lldO e35_26 e3 (by omega) (by omega) (by decide) (fun l5 => ?_)
        refine w_cs e35_27 (by decide) (Nat.le_of_ble_eq_true rfl) (Nat.le_of_ble_eq_true rfl) (Nat.le_of_ble_eq_true rfl) (by decide) (by decide) (c74 hT) (fun o6 v7 hq8 => ?_)
        obtain ⟨rfl, q10, h11, rfl⟩ := hq8
        refine w_if e35_30 (by omega) (fun (h12 : q10 = 0) => ?_) (fun (h12 : q10 ≠ 0) => ?_)
        ·
          refine w_kI e35_48 ?_
          exact w_rz e35_49 rfl (by omega) ⟨rfl, 0, (by omega), rfl⟩
        ·
          refine w_ldA e35_33 (fun _ => rfl) rfl ?_
          refine w_get e35_34 gc_0 rfl ?_
          refine w_ldI e35_37 (fun _ => rfl) rfl ?_
          obtain ⟨f14, e13⟩ := tc_big hT gk_0.1
          refine w_lldO e35_38 e13 (by omega) (by omega) (by decide) (fun l15 => ?_)
          refine w_oL e35_39 (fun _ => rfl) (fun l16 => ?_)
          refine w_oL e35_42 (fun _ => rfl) (fun l17 => ?_)
          refine w_oL e35_43 (fun _ => rfl) (fun l18 => ?_)
          refine w_lcmp e35_44 (fun q19 (h20 : -1 ≤ q19 ∧ q19 ≤ 1) h21 h22 => ?_)
          refine w_if e35_45 (by omega) (fun (h23 : q19 = 0) => ?_) (fun (h23 : q19 ≠ 0) => ?_)
          ·
            refine w_iinc (A1 := [some (.ref 219), some (.int (vz (x1 + 1)))]) e35_50 rfl (by decide) rfl ?_
            refine w_x e35_53 (fun _ => rfl) ?_
            exact w_sub (A1 := [some (.ref 219), some (.int (vz (x1 + 1)))]) (And.intro rfl (And.intro rfl trivial)) ((ih) (x1 + 1) (by omega) (by omega) (by omega))
          ·
            refine w_kI e35_48 ?_
            exact w_rz e35_49 rfl (by omega) ⟨rfl, 0, (by omega), rfl⟩
set_option maxRecDepth 100000 in
set_option maxHeartbeats 4000000 in
theorem c35 {θ : tc_S} {v0 : (Bool × Bool) × vm_H} {vh : vm_H} (hT : tc θ v0 vh) {k1 : Nat} {k2 : Nat} {k3 : Nat} {k4 : Nat} {sn : Int} (gc_0 : vm_at vh 219 = some (.inr (3, [.ref k1, .ref k2, .ref k3, .ref k4, .int (vz sn)]))) (gk_0 : ty k1 = 14 ∧ ty k2 = 14 ∧ ty k3 = 14 ∧ ty k4 = 14) (gi_0 : 0 ≤ sn ∧ sn ≤ 3660) : vm_Rp 1 21 35 [.ref 219] vh (fun r v1 => vh = v1 ∧ ∃ q : Int, ((0 ≤ q ∧ q ≤ 1) ∧ (q = 0 ∨ sn ≤ 60)) ∧ r = some (.int (vz q))) := by
  have hok : (0 ≤ θ.1 ∧ θ.1 ≤ 8) ∧ (0 ≤ θ.2.1 ∧ θ.2.1 ≤ 16) ∧ (-2147483648 ≤ θ.2.2.2.1 ∧ θ.2.2.2.1 < 2147483648) ∧ (0 ≤ θ.2.2.2.2 ∧ θ.2.2.2.2 ≤ 8) := hT.1
  refine w_in (m := 1) ?_
  show vm_Wp _ _ _ 0 [some (.ref 219), none] [] _ _
  refine w_ldA e35_0 (fun _ => rfl) rfl ?_
  refine w_get e35_1 gc_0 rfl ?_
  refine w_kB e35_4 rfl ?_
  refine w_ic e35_6 (by omega) (by omega) (fun (h1 : sn ≤ 60) => ?_) (fun (h1 : 60 < sn) => ?_)
  ·
    refine w_kI e35_11 ?_
    refine w_stI (j := 1) (A1 := [some (.ref 219), some (.int (vz 0))]) e35_12 (fun _ => rfl) (by decide) rfl ?_
    exact w_sub (A1 := [some (.ref 219), some (.int (vz 0))]) (And.intro rfl (And.intro rfl trivial)) (((c35_L (θ := θ) (k1 := k1) (k2 := k2) (k3 := k3) (k4 := k4) (sn := sn) (v0 := v0) (vh := vh) hT gc_0 gk_0 gi_0 _)) 0 (by omega) (by omega) (Nat.lt_succ_self _))
  ·
    refine w_kI e35_9 ?_
    exact w_rz e35_10 rfl (by omega) ⟨rfl, 0, (by omega), rfl⟩
set_option maxRecDepth 100000 in
set_option maxHeartbeats 4000000 in
theorem c33_L {θ : tc_S} {v0 : (Bool × Bool) × vm_H} {l_1 : Int64} {l_2 : Int64} {a3 : Nat} (ha3 : ty a3 = 1) {i4 : Int} (hi_4 : -2147483648 ≤ i4 ∧ i4 < 2147483648) {i5 : Int} (hi_5 : -2147483648 ≤ i5 ∧ i5 < 2147483648) : ∀ N : Nat, (∀ (vh : vm_H) (x8 : Int) (x9 : Int) (x10 : Int) (k1 : Nat) (k2 : Nat) (k3 : Nat) (k4 : Nat) (sn : Int) (n : Int), (tc θ v0 vh) → (0 ≤ x8 ∧ x8 ≤ sn) → (0 ≤ x9 ∧ x9 ≤ x8 + x10) → (0 ≤ x10 ∧ x10 ≤ n) → (vm_at vh 219 = some (.inr (3, [.ref k1, .ref k2, .ref k3, .ref k4, .int (vz sn)]))) → (ty k1 = 14 ∧ ty k2 = 14 ∧ ty k3 = 14 ∧ ty k4 = 14) → (vm_at vh a3 = some (.inr (1, [.ref (a3 + 1), .ref (a3 + 2), .int (vz n)]))) → (0 ≤ n ∧ n ≤ 60 ∧ 0 ≤ sn ∧ sn + n ≤ 3660) → (((60 - x10) * 10000 + 5000 : Int).toNat < N) → vm_Wp 1 30 33 27 [some (.ref 219), some (.long l_1), none, some (.long l_2), none, some (.ref a3), some (.int (vz i4)), some (.int (vz i5)), some (.int (vz x8)), some (.int (vz x9)), some (.int (vz x10)), none, none, none, none] [] vh (vq_P 33 (fun r v1 => (tc θ v0 v1) ∧ ∃ q : Int, ((0 ≤ q ∧ q ≤ 1)) ∧ r = some (.int (vz q))))) ∧ (∀ (vh : vm_H) (x8 : Int) (x9 : Int) (x10 : Int) (y11 : Int64) (y13 : Int64) (k1 : Nat) (k2 : Nat) (k3 : Nat) (k4 : Nat) (sn : Int) (n : Int), (tc θ v0 vh) → (0 ≤ x8 ∧ x8 ≤ sn) → (0 ≤ x9 ∧ x9 ≤ x8 + x10) → (0 ≤ x10 ∧ x10 < n) → (vm_at vh 219 = some (.inr (3, [.ref k1, .ref k2, .ref k3, .ref k4, .int (vz sn)]))) → (ty k1 = 14 ∧ ty k2 = 14 ∧ ty k3 = 14 ∧ ty k4 = 14) → (vm_at vh a3 = some (.inr (1, [.ref (a3 + 1), .ref (a3 + 2), .int (vz n)]))) → (0 ≤ n ∧ n ≤ 60 ∧ 0 ≤ sn ∧ sn + n ≤ 3660) → (((60 - x10) * 10000 + (3660 - x8) : Int).toNat < N) → vm_Wp 1 30 33 82 [some (.ref 219), some (.long l_1), none, some (.long l_2), none, some (.ref a3), some (.int (vz i4)), some (.int (vz i5)), some (.int (vz x8)), some (.int (vz x9)), some (.int (vz x10)), some (.long y11), none, some (.long y13), none] [] vh (vq_P 33 (fun r v1 => (tc θ v0 v1) ∧ ∃ q : Int, ((0 ≤ q ∧ q ≤ 1)) ∧ r = some (.int (vz q))))) := by
  intro N
  induction N with
  | zero => exact ⟨by intros; omega, by intros; omega⟩
  | succ N ih =>
    refine ⟨?_, ?_⟩
    ·
      intro vh x8 x9 x10 k1 k2 k3 k4 sn n hT hx8 hx9 hx10 hc_0 hk_0 hc_1 hi0 hN
      have hok : (0 ≤ θ.1 ∧ θ.1 ≤ 8) ∧ (0 ≤ θ.2.1 ∧ θ.2.1 ≤ 16) ∧ (-2147483648 ≤ θ.2.2.2.1 ∧ θ.2.2.2.1 < 2147483648) ∧ (0 ≤ θ.2.2.2.2 ∧ θ.2.2.2.2 ≤ 8) := hT.1
      refine w_ldI e33_27 (fun _ => rfl) rfl ?_
      refine w_ldA e33_29 (fun _ => rfl) rfl ?_
      refine w_get e33_31 hc_1 rfl ?_
      refine w_ic e33_34 (by omega) (by omega) (fun (h13 : n ≤ x10) => ?_) (fun (h13 : x10 < n) => ?_)
      ·
        refine w_ldA e33_212 (fun _ => rfl) rfl ?_
        refine w_get e33_213 hc_0 rfl ?_
        refine w_ldI e33_216 (fun _ => rfl) rfl ?_
        refine w_ldA e33_218 (fun _ => rfl) rfl ?_
        refine w_get e33_219 hc_0 rfl ?_
        refine w_ldI e33_222 (fun _ => rfl) rfl ?_
        refine w_ldA e33_224 (fun _ => rfl) rfl ?_
        refine w_get e33_225 hc_0 rfl ?_
        refine w_ldI e33_228 (fun _ => rfl) rfl ?_
        refine w_isub e33_230 ?_
        obtain ⟨f15, e14⟩ := tc_big hT hk_0.1
        obtain ⟨f17, e16⟩ := tc_big hT hk_0.2.2.1
        refine w_acL e33_231 e14 e16 (by omega) (by omega) (by omega) (by omega) (by omega) (by decide) (by decide) (Nat.le_of_ble_eq_true rfl) (by decide) (by decide) (fun v18 b19 h20 => ?_)
        have hT21 := ts_big hT hk_0.2.2.1 b19 h20
        have e22 := (b19.2 219 (ty_ne (rfl : ty 219 = 13) hk_0.2.2.1 (by decide))).trans hc_0
        have e23 := (b19.2 a3 (ty_ne ha3 hk_0.2.2.1 (by decide))).trans hc_1
        refine w_ldA e33_234 (fun _ => rfl) rfl ?_
        refine w_get e33_235 e22 rfl ?_
        refine w_ldI e33_238 (fun _ => rfl) rfl ?_
        refine w_ldA e33_240 (fun _ => rfl) rfl ?_
        refine w_get e33_241 e22 rfl ?_
        refine w_ldI e33_244 (fun _ => rfl) rfl ?_
        refine w_ldA e33_246 (fun _ => rfl) rfl ?_
        refine w_get e33_247 e22 rfl ?_
        refine w_ldI e33_250 (fun _ => rfl) rfl ?_
        refine w_isub e33_252 ?_
        obtain ⟨f25, e24⟩ := tc_big hT21 hk_0.2.1
        obtain ⟨f27, e26⟩ := tc_big hT21 hk_0.2.2.2
        refine w_acL e33_253 e24 e26 (by omega) (by omega) (by omega) (by omega) (by omega) (by decide) (by decide) (Nat.le_of_ble_eq_true rfl) (by decide) (by decide) (fun v28 b29 h30 => ?_)
        have hT31 := ts_big hT21 hk_0.2.2.2 b29 h30
        have e32 := (b29.2 219 (ty_ne (rfl : ty 219 = 13) hk_0.2.2.2 (by decide))).trans e22
        have e33 := (b29.2 a3 (ty_ne ha3 hk_0.2.2.2 (by decide))).trans e23
        refine w_ldA e33_256 (fun _ => rfl) rfl ?_
        refine w_ldI e33_257 (fun _ => rfl) rfl ?_
        refine w_ldA e33_259 (fun _ => rfl) rfl ?_
        refine w_get e33_260 e32 rfl ?_
        refine w_iadd e33_263 ?_
        refine w_ldI e33_264 (fun _ => rfl) rfl ?_
        refine w_isub e33_266 ?_
        refine w_put e33_267 e32 (Nat.le_of_ble_eq_true rfl) rfl (fun v36 b34 h35 => ?_)
        have h35 : vm_at v36 219 = some (.inr (3, [.ref k1, .ref k2, .ref k3, .ref k4, .int (vz ((x9 + sn) - x8))])) := h35
        have hT37 := ts_stp hT31 ⟨hk_0.1, hk_0.2.1, hk_0.2.2.1, hk_0.2.2.2⟩ (by omega) b34 h35
        have e38 := (b34.2 a3 (ty_ne ha3 (rfl : ty 219 = 13) (by decide))).trans e33
        refine w_ldA e33_270 (fun _ => rfl) rfl ?_
        refine w_cv e33_271 (by decide) rfl h35 rfl (Nat.le_of_ble_eq_true rfl) (Nat.le_of_ble_eq_true rfl) (Nat.le_of_ble_eq_true rfl) (by decide) (by decide) (c34 hT37) (fun o39 v40 hq41 => ?_)
        obtain ⟨hT42, rfl⟩ := hq41
        refine w_kI e33_274 ?_
        exact w_rz e33_275 rfl (by omega) ⟨hT42, 1, (by omega), rfl⟩
      ·
        refine w_ldA e33_37 (fun _ => rfl) rfl ?_
        refine w_get e33_39 hc_1 rfl ?_
        refine w_ldI e33_42 (fun _ => rfl) rfl ?_
        obtain ⟨f44, e43⟩ := tc_l60 hT (ty_p ha3).1
        refine w_lldO e33_44 e43 (by omega) (by omega) (by decide) (fun l45 => ?_)
        refine w_ldI e33_45 (fun _ => rfl) rfl ?_
        refine w_cs e33_47 (by decide) (Nat.le_of_ble_eq_true rfl) (Nat.le_of_ble_eq_true rfl) (Nat.le_of_ble_eq_true rfl) (by decide) (by decide) (c73 hT hi_4) (fun o46 v47 hq48 => ?_)
        obtain ⟨rfl, q50, h51, rfl⟩ := hq48
        refine w_ldI e33_50 (fun _ => rfl) rfl ?_
        refine w_ic e33_52 h51 hi_5 (fun (h52 : q50 ≠ i5) => ?_) (fun (h52 : q50 = i5) => ?_)
        ·
          refine w_ldA e33_58 (fun _ => rfl) rfl ?_
          refine w_get e33_60 hc_1 rfl ?_
          refine w_ldI e33_63 (fun _ => rfl) rfl ?_
          refine w_lldO e33_65 e43 (by omega) (by omega) (by decide) (fun l53 => ?_)
          refine w_ldL e33_66 (fun _ => rfl) rfl ?_
          refine w_oL e33_67 (fun _ => rfl) (fun l54 => ?_)
          refine w_stL (j := 11) (A1 := [some (.ref 219), some (.long l_1), none, some (.long l_2), none, some (.ref a3), some (.int (vz i4)), some (.int (vz i5)), some (.int (vz x8)), some (.int (vz x9)), some (.int (vz x10)), some (.long l54), none, none, none]) e33_68 (fun _ => rfl) (by decide) rfl ?_
          refine w_ldA e33_70 (fun _ => rfl) rfl ?_
          refine w_get e33_72 hc_1 rfl ?_
          refine w_ldI e33_75 (fun _ => rfl) rfl ?_
          obtain ⟨f56, e55⟩ := tc_l60 hT (ty_p ha3).2
          refine w_lldO e33_77 e55 (by omega) (by omega) (by decide) (fun l57 => ?_)
          refine w_ldL e33_78 (fun _ => rfl) rfl ?_
          refine w_oL e33_79 (fun _ => rfl) (fun l58 => ?_)
          refine w_stL (j := 13) (A1 := [some (.ref 219), some (.long l_1), none, some (.long l_2), none, some (.ref a3), some (.int (vz i4)), some (.int (vz i5)), some (.int (vz x8)), some (.int (vz x9)), some (.int (vz x10)), some (.long l54), none, some (.long l58), none]) e33_80 (fun _ => rfl) (by decide) rfl ?_
          exact w_sub (A1 := [some (.ref 219), some (.long l_1), none, some (.long l_2), none, some (.ref a3), some (.int (vz i4)), some (.int (vz i5)), some (.int (vz x8)), some (.int (vz x9)), some (.int (vz x10)), some (.long l54), none, some (.long l58), none]) (And.intro rfl (And.intro rfl (And.intro rfl (And.intro rfl (And.intro rfl (And.intro rfl (And.intro rfl (And.intro rfl (And.intro rfl (And.intro rfl (And.intro rfl trivial))))))))))) ((ih.2) vh x8 x9 x10 l54 l58 k1 k2 k3 k4 sn n hT (by omega) (by omega) (by omega) hc_0 ⟨hk_0.1, hk_0.2.1, hk_0.2.2.1, hk_0.2.2.2⟩ hc_1 (by omega) (by omega))
        ·
          refine w_x e33_55 (fun _ => rfl) ?_
          refine w_iinc (A1 := [some (.ref 219), some (.long l_1), none, some (.long l_2), none, some (.ref a3), some (.int (vz i4)), some (.int (vz i5)), some (.int (vz x8)), some (.int (vz x9)), some (.int (vz (x10 + 1))), none, none, none, none]) e33_206 rfl (by decide) rfl ?_
          refine w_x e33_209 (fun _ => rfl) ?_
          exact w_sub (A1 := [some (.ref 219), some (.long l_1), none, some (.long l_2), none, some (.ref a3), some (.int (vz i4)), some (.int (vz i5)), some (.int (vz x8)), some (.int (vz x9)), some (.int (vz (x10 + 1))), none, none, none, none]) (And.intro rfl (And.intro rfl (And.intro rfl (And.intro rfl (And.intro rfl (And.intro rfl (And.intro rfl (And.intro rfl (And.intro rfl trivial))))))))) ((ih.1) vh x8 x9 (x10 + 1) k1 k2 k3 k4 sn n hT (by omega) (by omega) (by omega) hc_0 ⟨hk_0.1, hk_0.2.1, hk_0.2.2.1, hk_0.2.2.2⟩ hc_1 (by omega) (by omega))
    ·
      intro vh x8 x9 x10 y11 y13 k1 k2 k3 k4 sn n hT hx8 hx9 hx10 hc_0 hk_0 hc_1 hi0 hN
      have hok : (0 ≤ θ.1 ∧ θ.1 ≤ 8) ∧ (0 ≤ θ.2.1 ∧ θ.2.1 ≤ 16) ∧ (-2147483648 ≤ θ.2.2.2.1 ∧ θ.2.2.2.1 < 2147483648) ∧ (0 ≤ θ.2.2.2.2 ∧ θ.2.2.2.2 ≤ 8) := hT.1
      refine w_ldI e33_82 (fun _ => rfl) rfl ?_
      refine w_ldA e33_84 (fun _ => rfl) rfl ?_
      refine w_get e33_85 hc_0 rfl ?_
      refine w_ic e33_88 (by omega) (by omega) (fun (h59 : sn ≤ x8) => ?_) (fun (h59 : x8 < sn) => ?_)
      ·
        refine w_ldI e33_141 (fun _ => rfl) rfl ?_
        refine w_ldA e33_143 (fun _ => rfl) rfl ?_
        refine w_get e33_144 hc_0 rfl ?_
        refine w_ic e33_147 (by omega) (by omega) (fun (h60 : sn ≤ x8) => ?_) (fun (h60 : x8 < sn) => ?_)
        ·
          refine w_ldL e33_178 (fun _ => rfl) rfl ?_
          refine w_oL e33_180 (fun _ => rfl) (fun l61 => ?_)
          refine w_lcmp e33_181 (fun q62 (h63 : -1 ≤ q62 ∧ q62 ≤ 1) h64 h65 => ?_)
          refine w_if e33_182 (by omega) (fun (h66 : q62 = 0) => ?_) (fun (h66 : q62 ≠ 0) => ?_)
          ·
            refine w_iinc (A1 := [some (.ref 219), some (.long l_1), none, some (.long l_2), none, some (.ref a3), some (.int (vz i4)), some (.int (vz i5)), some (.int (vz x8)), some (.int (vz x9)), some (.int (vz (x10 + 1))), some (.long y11), none, some (.long y13), none]) e33_206 rfl (by decide) rfl ?_
            refine w_x e33_209 (fun _ => rfl) ?_
            exact w_sub (A1 := [some (.ref 219), some (.long l_1), none, some (.long l_2), none, some (.ref a3), some (.int (vz i4)), some (.int (vz i5)), some (.int (vz x8)), some (.int (vz x9)), some (.int (vz (x10 + 1))), none, none, none, none]) (And.intro rfl (And.intro rfl (And.intro rfl (And.intro rfl (And.intro rfl (And.intro rfl (And.intro rfl (And.intro rfl (And.intro rfl trivial))))))))) ((ih.1) vh x8 x9 (x10 + 1) k1 k2 k3 k4 sn n hT (by omega) (by omega) (by omega) hc_0 ⟨hk_0.1, hk_0.2.1, hk_0.2.2.1, hk_0.2.2.2⟩ hc_1 (by omega) (by omega))
          ·
            refine w_ldA e33_185 (fun _ => rfl) rfl ?_
            refine w_get e33_186 hc_0 rfl ?_
            refine w_ldI e33_189 (fun _ => rfl) rfl ?_
            refine w_ldL e33_191 (fun _ => rfl) rfl ?_
            obtain ⟨f68, e67⟩ := tc_big hT hk_0.2.2.1
            refine w_lst e33_193 e67 (by omega) (by omega) (by decide) (fun v71 b69 h70 => ?_)
            have hT72 := ts_big hT hk_0.2.2.1 b69 h70
            have e73 := (b69.2 219 (ty_ne (rfl : ty 219 = 13) hk_0.2.2.1 (by decide))).trans hc_0
            have e74 := (b69.2 a3 (ty_ne ha3 hk_0.2.2.1 (by decide))).trans hc_1
            refine w_ldA e33_194 (fun _ => rfl) rfl ?_
            refine w_get e33_195 e73 rfl ?_
            refine w_ldI e33_198 (fun _ => rfl) rfl ?_
            refine w_ldL e33_200 (fun _ => rfl) rfl ?_
            obtain ⟨f76, e75⟩ := tc_big hT72 hk_0.2.2.2
            refine w_lst e33_202 e75 (by omega) (by omega) (by decide) (fun v79 b77 h78 => ?_)
            have hT80 := ts_big hT72 hk_0.2.2.2 b77 h78
            have e81 := (b77.2 219 (ty_ne (rfl : ty 219 = 13) hk_0.2.2.2 (by decide))).trans e73
            have e82 := (b77.2 a3 (ty_ne ha3 hk_0.2.2.2 (by decide))).trans e74
            refine w_iinc (A1 := [some (.ref 219), some (.long l_1), none, some (.long l_2), none, some (.ref a3), some (.int (vz i4)), some (.int (vz i5)), some (.int (vz x8)), some (.int (vz (x9 + 1))), some (.int (vz x10)), some (.long y11), none, some (.long y13), none]) e33_203 rfl (by decide) rfl ?_
            refine w_iinc (A1 := [some (.ref 219), some (.long l_1), none, some (.long l_2), none, some (.ref a3), some (.int (vz i4)), some (.int (vz i5)), some (.int (vz x8)), some (.int (vz (x9 + 1))), some (.int (vz (x10 + 1))), some (.long y11), none, some (.long y13), none]) e33_206 rfl (by decide) rfl ?_
            refine w_x e33_209 (fun _ => rfl) ?_
            exact w_sub (A1 := [some (.ref 219), some (.long l_1), none, some (.long l_2), none, some (.ref a3), some (.int (vz i4)), some (.int (vz i5)), some (.int (vz x8)), some (.int (vz (x9 + 1))), some (.int (vz (x10 + 1))), none, none, none, none]) (And.intro rfl (And.intro rfl (And.intro rfl (And.intro rfl (And.intro rfl (And.intro rfl (And.intro rfl (And.intro rfl (And.intro rfl trivial))))))))) ((ih.1) v79 x8 (x9 + 1) (x10 + 1) k1 k2 k3 k4 sn n hT80 (by omega) (by omega) (by omega) e81 ⟨hk_0.1, hk_0.2.1, hk_0.2.2.1, hk_0.2.2.2⟩ e82 (by omega) (by omega))
        ·
          refine w_ldA e33_150 (fun _ => rfl) rfl ?_
          refine w_get e33_151 hc_0 rfl ?_
          refine w_ldI e33_154 (fun _ => rfl) rfl ?_
          obtain ⟨f84, e83⟩ := tc_big hT hk_0.1
          refine w_lldO e33_156 e83 (by omega) (by omega) (by decide) (fun l85 => ?_)
          refine w_ldL e33_157 (fun _ => rfl) rfl ?_
          refine w_lcmp e33_159 (fun q86 (h87 : -1 ≤ q86 ∧ q86 ≤ 1) h88 h89 => ?_)
          refine w_if e33_160 (by omega) (fun (h90 : q86 ≠ 0) => ?_) (fun (h90 : q86 = 0) => ?_)
          ·
            refine w_ldL e33_178 (fun _ => rfl) rfl ?_
            refine w_oL e33_180 (fun _ => rfl) (fun l91 => ?_)
            refine w_lcmp e33_181 (fun q92 (h93 : -1 ≤ q92 ∧ q92 ≤ 1) h94 h95 => ?_)
            refine w_if e33_182 (by omega) (fun (h96 : q92 = 0) => ?_) (fun (h96 : q92 ≠ 0) => ?_)
            ·
              refine w_iinc (A1 := [some (.ref 219), some (.long l_1), none, some (.long l_2), none, some (.ref a3), some (.int (vz i4)), some (.int (vz i5)), some (.int (vz x8)), some (.int (vz x9)), some (.int (vz (x10 + 1))), some (.long y11), none, some (.long y13), none]) e33_206 rfl (by decide) rfl ?_
              refine w_x e33_209 (fun _ => rfl) ?_
              exact w_sub (A1 := [some (.ref 219), some (.long l_1), none, some (.long l_2), none, some (.ref a3), some (.int (vz i4)), some (.int (vz i5)), some (.int (vz x8)), some (.int (vz x9)), some (.int (vz (x10 + 1))), none, none, none, none]) (And.intro rfl (And.intro rfl (And.intro rfl (And.intro rfl (And.intro rfl (And.intro rfl (And.intro rfl (And.intro rfl (And.intro rfl trivial))))))))) ((ih.1) vh x8 x9 (x10 + 1) k1 k2 k3 k4 sn n hT (by omega) (by omega) (by omega) hc_0 ⟨hk_0.1, hk_0.2.1, hk_0.2.2.1, hk_0.2.2.2⟩ hc_1 (by omega) (by omega))
            ·
              refine w_ldA e33_185 (fun _ => rfl) rfl ?_
              refine w_get e33_186 hc_0 rfl ?_
              refine w_ldI e33_189 (fun _ => rfl) rfl ?_
              refine w_ldL e33_191 (fun _ => rfl) rfl ?_
              obtain ⟨f98, e97⟩ := tc_big hT hk_0.2.2.1
              refine w_lst e33_193 e97 (by omega) (by omega) (by decide) (fun v101 b99 h100 => ?_)
              have hT102 := ts_big hT hk_0.2.2.1 b99 h100
              have e103 := (b99.2 219 (ty_ne (rfl : ty 219 = 13) hk_0.2.2.1 (by decide))).trans hc_0
              have e104 := (b99.2 a3 (ty_ne ha3 hk_0.2.2.1 (by decide))).trans hc_1
              refine w_ldA e33_194 (fun _ => rfl) rfl ?_
              refine w_get e33_195 e103 rfl ?_
              refine w_ldI e33_198 (fun _ => rfl) rfl ?_
              refine w_ldL e33_200 (fun _ => rfl) rfl ?_
              obtain ⟨f106, e105⟩ := tc_big hT102 hk_0.2.2.2
              refine w_lst e33_202 e105 (by omega) (by omega) (by decide) (fun v109 b107 h108 => ?_)
              have hT110 := ts_big hT102 hk_0.2.2.2 b107 h108
              have e111 := (b107.2 219 (ty_ne (rfl : ty 219 = 13) hk_0.2.2.2 (by decide))).trans e103
              have e112 := (b107.2 a3 (ty_ne ha3 hk_0.2.2.2 (by decide))).trans e104
              refine w_iinc (A1 := [some (.ref 219), some (.long l_1), none, some (.long l_2), none, some (.ref a3), some (.int (vz i4)), some (.int (vz i5)), some (.int (vz x8)), some (.int (vz (x9 + 1))), some (.int (vz x10)), some (.long y11), none, some (.long y13), none]) e33_203 rfl (by decide) rfl ?_
              refine w_iinc (A1 := [some (.ref 219), some (.long l_1), none, some (.long l_2), none, some (.ref a3), some (.int (vz i4)), some (.int (vz i5)), some (.int (vz x8)), some (.int (vz (x9 + 1))), some (.int (vz (x10 + 1))), some (.long y11), none, some (.long y13), none]) e33_206 rfl (by decide) rfl ?_
              refine w_x e33_209 (fun _ => rfl) ?_
              exact w_sub (A1 := [some (.ref 219), some (.long l_1), none, some (.long l_2), none, some (.ref a3), some (.int (vz i4)), some (.int (vz i5)), some (.int (vz x8)), some (.int (vz (x9 + 1))), some (.int (vz (x10 + 1))), none, none, none, none]) (And.intro rfl (And.intro rfl (And.intro rfl (And.intro rfl (And.intro rfl (And.intro rfl (And.intro rfl (And.intro rfl (And.intro rfl trivial))))))))) ((ih.1) v109 x8 (x9 + 1) (x10 + 1) k1 k2 k3 k4 sn n hT110 (by omega) (by omega) (by omega) e111 ⟨hk_0.1, hk_0.2.1, hk_0.2.2.1, hk_0.2.2.2⟩ e112 (by omega) (by omega))
          ·
            refine w_ldL e33_163 (fun _ => rfl) rfl ?_
            refine w_ldA e33_165 (fun _ => rfl) rfl ?_
            refine w_get e33_166 hc_0 rfl ?_
            refine w_ldI e33_169 (fun _ => rfl) rfl ?_
            obtain ⟨f114, e113⟩ := tc_big hT hk_0.2.1
            refine w_lldO e33_171 e113 (by omega) (by omega) (by decide) (fun l115 => ?_)
            refine w_oL e33_172 (fun _ => rfl) (fun l116 => ?_)
            refine w_stL (j := 13) (A1 := [some (.ref 219), some (.long l_1), none, some (.long l_2), none, some (.ref a3), some (.int (vz i4)), some (.int (vz i5)), some (.int (vz x8)), some (.int (vz x9)), some (.int (vz x10)), some (.long y11), none, some (.long l116), none]) e33_173 (fun _ => rfl) (by decide) rfl ?_
            refine w_iinc (A1 := [some (.ref 219), some (.long l_1), none, some (.long l_2), none, some (.ref a3), some (.int (vz i4)), some (.int (vz i5)), some (.int (vz (x8 + 1))), some (.int (vz x9)), some (.int (vz x10)), some (.long y11), none, some (.long l116), none]) e33_175 rfl (by decide) rfl ?_
            refine w_ldL e33_178 (fun _ => rfl) rfl ?_
            refine w_oL e33_180 (fun _ => rfl) (fun l117 => ?_)
            refine w_lcmp e33_181 (fun q118 (h119 : -1 ≤ q118 ∧ q118 ≤ 1) h120 h121 => ?_)
            refine w_if e33_182 (by omega) (fun (h122 : q118 = 0) => ?_) (fun (h122 : q118 ≠ 0) => ?_)
            ·
              refine w_iinc (A1 := [some (.ref 219), some (.long l_1), none, some (.long l_2), none, some (.ref a3), some (.int (vz i4)), some (.int (vz i5)), some (.int (vz (x8 + 1))), some (.int (vz x9)), some (.int (vz (x10 + 1))), some (.long y11), none, some (.long l116), none]) e33_206 rfl (by decide) rfl ?_
              refine w_x e33_209 (fun _ => rfl) ?_
              exact w_sub (A1 := [some (.ref 219), some (.long l_1), none, some (.long l_2), none, some (.ref a3), some (.int (vz i4)), some (.int (vz i5)), some (.int (vz (x8 + 1))), some (.int (vz x9)), some (.int (vz (x10 + 1))), none, none, none, none]) (And.intro rfl (And.intro rfl (And.intro rfl (And.intro rfl (And.intro rfl (And.intro rfl (And.intro rfl (And.intro rfl (And.intro rfl trivial))))))))) ((ih.1) vh (x8 + 1) x9 (x10 + 1) k1 k2 k3 k4 sn n hT (by omega) (by omega) (by omega) hc_0 ⟨hk_0.1, hk_0.2.1, hk_0.2.2.1, hk_0.2.2.2⟩ hc_1 (by omega) (by omega))
            ·
              refine w_ldA e33_185 (fun _ => rfl) rfl ?_
              refine w_get e33_186 hc_0 rfl ?_
              refine w_ldI e33_189 (fun _ => rfl) rfl ?_
              refine w_ldL e33_191 (fun _ => rfl) rfl ?_
              obtain ⟨f124, e123⟩ := tc_big hT hk_0.2.2.1
              refine w_lst e33_193 e123 (by omega) (by omega) (by decide) (fun v127 b125 h126 => ?_)
              have hT128 := ts_big hT hk_0.2.2.1 b125 h126
              have e129 := (b125.2 219 (ty_ne (rfl : ty 219 = 13) hk_0.2.2.1 (by decide))).trans hc_0
              have e130 := (b125.2 a3 (ty_ne ha3 hk_0.2.2.1 (by decide))).trans hc_1
              refine w_ldA e33_194 (fun _ => rfl) rfl ?_
              refine w_get e33_195 e129 rfl ?_
              refine w_ldI e33_198 (fun _ => rfl) rfl ?_
              refine w_ldL e33_200 (fun _ => rfl) rfl ?_
              obtain ⟨f132, e131⟩ := tc_big hT128 hk_0.2.2.2
              refine w_lst e33_202 e131 (by omega) (by omega) (by decide) (fun v135 b133 h134 => ?_)
              have hT136 := ts_big hT128 hk_0.2.2.2 b133 h134
              have e137 := (b133.2 219 (ty_ne (rfl : ty 219 = 13) hk_0.2.2.2 (by decide))).trans e129
              have e138 := (b133.2 a3 (ty_ne ha3 hk_0.2.2.2 (by decide))).trans e130
              refine w_iinc (A1 := [some (.ref 219), some (.long l_1), none, some (.long l_2), none, some (.ref a3), some (.int (vz i4)), some (.int (vz i5)), some (.int (vz (x8 + 1))), some (.int (vz (x9 + 1))), some (.int (vz x10)), some (.long y11), none, some (.long l116), none]) e33_203 rfl (by decide) rfl ?_
              refine w_iinc (A1 := [some (.ref 219), some (.long l_1), none, some (.long l_2), none, some (.ref a3), some (.int (vz i4)), some (.int (vz i5)), some (.int (vz (x8 + 1))), some (.int (vz (x9 + 1))), some (.int (vz (x10 + 1))), some (.long y11), none, some (.long l116), none]) e33_206 rfl (by decide) rfl ?_
              refine w_x e33_209 (fun _ => rfl) ?_
              exact w_sub (A1 := [some (.ref 219), some (.long l_1), none, some (.long l_2), none, some (.ref a3), some (.int (vz i4)), some (.int (vz i5)), some (.int (vz (x8 + 1))), some (.int (vz (x9 + 1))), some (.int (vz (x10 + 1))), none, none, none, none]) (And.intro rfl (And.intro rfl (And.intro rfl (And.intro rfl (And.intro rfl (And.intro rfl (And.intro rfl (And.intro rfl (And.intro rfl trivial))))))))) ((ih.1) v135 (x8 + 1) (x9 + 1) (x10 + 1) k1 k2 k3 k4 sn n hT136 (by omega) (by omega) (by omega) e137 ⟨hk_0.1, hk_0.2.1, hk_0.2.2.1, hk_0.2.2.2⟩ e138 (by omega) (by omega))
      ·
        refine w_ldA e33_91 (fun _ => rfl) rfl ?_
        refine w_get e33_92 hc_0 rfl ?_
        refine w_ldI e33_95 (fun _ => rfl) rfl ?_
        obtain ⟨f140, e139⟩ := tc_big hT hk_0.1
        refine w_lldO e33_97 e139 (by omega) (by omega) (by decide) (fun l141 => ?_)
        refine w_ldL e33_98 (fun _ => rfl) rfl ?_
        refine w_lcmp e33_100 (fun q142 (h143 : -1 ≤ q142 ∧ q142 ≤ 1) h144 h145 => ?_)
        refine w_if e33_101 (by omega) (fun (h146 : q142 ≤ 0) => ?_) (fun (h146 : 0 < q142) => ?_)
        ·
          refine w_ldI e33_141 (fun _ => rfl) rfl ?_
          refine w_ldA e33_143 (fun _ => rfl) rfl ?_
          refine w_get e33_144 hc_0 rfl ?_
          refine w_ic e33_147 (by omega) (by omega) (fun (h147 : sn ≤ x8) => ?_) (fun (h147 : x8 < sn) => ?_)
          ·
            refine w_ldL e33_178 (fun _ => rfl) rfl ?_
            refine w_oL e33_180 (fun _ => rfl) (fun l148 => ?_)
            refine w_lcmp e33_181 (fun q149 (h150 : -1 ≤ q149 ∧ q149 ≤ 1) h151 h152 => ?_)
            refine w_if e33_182 (by omega) (fun (h153 : q149 = 0) => ?_) (fun (h153 : q149 ≠ 0) => ?_)
            ·
              refine w_iinc (A1 := [some (.ref 219), some (.long l_1), none, some (.long l_2), none, some (.ref a3), some (.int (vz i4)), some (.int (vz i5)), some (.int (vz x8)), some (.int (vz x9)), some (.int (vz (x10 + 1))), some (.long y11), none, some (.long y13), none]) e33_206 rfl (by decide) rfl ?_
              refine w_x e33_209 (fun _ => rfl) ?_
              exact w_sub (A1 := [some (.ref 219), some (.long l_1), none, some (.long l_2), none, some (.ref a3), some (.int (vz i4)), some (.int (vz i5)), some (.int (vz x8)), some (.int (vz x9)), some (.int (vz (x10 + 1))), none, none, none, none]) (And.intro rfl (And.intro rfl (And.intro rfl (And.intro rfl (And.intro rfl (And.intro rfl (And.intro rfl (And.intro rfl (And.intro rfl trivial))))))))) ((ih.1) vh x8 x9 (x10 + 1) k1 k2 k3 k4 sn n hT (by omega) (by omega) (by omega) hc_0 ⟨hk_0.1, hk_0.2.1, hk_0.2.2.1, hk_0.2.2.2⟩ hc_1 (by omega) (by omega))
            ·
              refine w_ldA e33_185 (fun _ => rfl) rfl ?_
              refine w_get e33_186 hc_0 rfl ?_
              refine w_ldI e33_189 (fun _ => rfl) rfl ?_
              refine w_ldL e33_191 (fun _ => rfl) rfl ?_
              obtain ⟨f155, e154⟩ := tc_big hT hk_0.2.2.1
              refine w_lst e33_193 e154 (by omega) (by omega) (by decide) (fun v158 b156 h157 => ?_)
              have hT159 := ts_big hT hk_0.2.2.1 b156 h157
              have e160 := (b156.2 219 (ty_ne (rfl : ty 219 = 13) hk_0.2.2.1 (by decide))).trans hc_0
              have e161 := (b156.2 a3 (ty_ne ha3 hk_0.2.2.1 (by decide))).trans hc_1
              refine w_ldA e33_194 (fun _ => rfl) rfl ?_
              refine w_get e33_195 e160 rfl ?_
              refine w_ldI e33_198 (fun _ => rfl) rfl ?_
              refine w_ldL e33_200 (fun _ => rfl) rfl ?_
              obtain ⟨f163, e162⟩ := tc_big hT159 hk_0.2.2.2
              refine w_lst e33_202 e162 (by omega) (by omega) (by decide) (fun v166 b164 h165 => ?_)
              have hT167 := ts_big hT159 hk_0.2.2.2 b164 h165
              have e168 := (b164.2 219 (ty_ne (rfl : ty 219 = 13) hk_0.2.2.2 (by decide))).trans e160
              have e169 := (b164.2 a3 (ty_ne ha3 hk_0.2.2.2 (by decide))).trans e161
              refine w_iinc (A1 := [some (.ref 219), some (.long l_1), none, some (.long l_2), none, some (.ref a3), some (.int (vz i4)), some (.int (vz i5)), some (.int (vz x8)), some (.int (vz (x9 + 1))), some (.int (vz x10)), some (.long y11), none, some (.long y13), none]) e33_203 rfl (by decide) rfl ?_
              refine w_iinc (A1 := [some (.ref 219), some (.long l_1), none, some (.long l_2), none, some (.ref a3), some (.int (vz i4)), some (.int (vz i5)), some (.int (vz x8)), some (.int (vz (x9 + 1))), some (.int (vz (x10 + 1))), some (.long y11), none, some (.long y13), none]) e33_206 rfl (by decide) rfl ?_
              refine w_x e33_209 (fun _ => rfl) ?_
              exact w_sub (A1 := [some (.ref 219), some (.long l_1), none, some (.long l_2), none, some (.ref a3), some (.int (vz i4)), some (.int (vz i5)), some (.int (vz x8)), some (.int (vz (x9 + 1))), some (.int (vz (x10 + 1))), none, none, none, none]) (And.intro rfl (And.intro rfl (And.intro rfl (And.intro rfl (And.intro rfl (And.intro rfl (And.intro rfl (And.intro rfl (And.intro rfl trivial))))))))) ((ih.1) v166 x8 (x9 + 1) (x10 + 1) k1 k2 k3 k4 sn n hT167 (by omega) (by omega) (by omega) e168 ⟨hk_0.1, hk_0.2.1, hk_0.2.2.1, hk_0.2.2.2⟩ e169 (by omega) (by omega))
          ·
            refine w_ldA e33_150 (fun _ => rfl) rfl ?_
            refine w_get e33_151 hc_0 rfl ?_
            refine w_ldI e33_154 (fun _ => rfl) rfl ?_
            refine w_lldO e33_156 e139 (by omega) (by omega) (by decide) (fun l170 => ?_)
            refine w_ldL e33_157 (fun _ => rfl) rfl ?_
            refine w_lcmp e33_159 (fun q171 (h172 : -1 ≤ q171 ∧ q171 ≤ 1) h173 h174 => ?_)
            refine w_if e33_160 (by omega) (fun (h175 : q171 ≠ 0) => ?_) (fun (h175 : q171 = 0) => ?_)
            ·
              refine w_ldL e33_178 (fun _ => rfl) rfl ?_
              refine w_oL e33_180 (fun _ => rfl) (fun l176 => ?_)
              refine w_lcmp e33_181 (fun q177 (h178 : -1 ≤ q177 ∧ q177 ≤ 1) h179 h180 => ?_)
              refine w_if e33_182 (by omega) (fun (h181 : q177 = 0) => ?_) (fun (h181 : q177 ≠ 0) => ?_)
              ·
                refine w_iinc (A1 := [some (.ref 219), some (.long l_1), none, some (.long l_2), none, some (.ref a3), some (.int (vz i4)), some (.int (vz i5)), some (.int (vz x8)), some (.int (vz x9)), some (.int (vz (x10 + 1))), some (.long y11), none, some (.long y13), none]) e33_206 rfl (by decide) rfl ?_
                refine w_x e33_209 (fun _ => rfl) ?_
                exact w_sub (A1 := [some (.ref 219), some (.long l_1), none, some (.long l_2), none, some (.ref a3), some (.int (vz i4)), some (.int (vz i5)), some (.int (vz x8)), some (.int (vz x9)), some (.int (vz (x10 + 1))), none, none, none, none]) (And.intro rfl (And.intro rfl (And.intro rfl (And.intro rfl (And.intro rfl (And.intro rfl (And.intro rfl (And.intro rfl (And.intro rfl trivial))))))))) ((ih.1) vh x8 x9 (x10 + 1) k1 k2 k3 k4 sn n hT (by omega) (by omega) (by omega) hc_0 ⟨hk_0.1, hk_0.2.1, hk_0.2.2.1, hk_0.2.2.2⟩ hc_1 (by omega) (by omega))
              ·
                refine w_ldA e33_185 (fun _ => rfl) rfl ?_
                refine w_get e33_186 hc_0 rfl ?_
                refine w_ldI e33_189 (fun _ => rfl) rfl ?_
                refine w_ldL e33_191 (fun _ => rfl) rfl ?_
                obtain ⟨f183, e182⟩ := tc_big hT hk_0.2.2.1
                refine w_lst e33_193 e182 (by omega) (by omega) (by decide) (fun v186 b184 h185 => ?_)
                have hT187 := ts_big hT hk_0.2.2.1 b184 h185
                have e188 := (b184.2 219 (ty_ne (rfl : ty 219 = 13) hk_0.2.2.1 (by decide))).trans hc_0
                have e189 := (b184.2 a3 (ty_ne ha3 hk_0.2.2.1 (by decide))).trans hc_1
                refine w_ldA e33_194 (fun _ => rfl) rfl ?_
                refine w_get e33_195 e188 rfl ?_
                refine w_ldI e33_198 (fun _ => rfl) rfl ?_
                refine w_ldL e33_200 (fun _ => rfl) rfl ?_
                obtain ⟨f191, e190⟩ := tc_big hT187 hk_0.2.2.2
                refine w_lst e33_202 e190 (by omega) (by omega) (by decide) (fun v194 b192 h193 => ?_)
                have hT195 := ts_big hT187 hk_0.2.2.2 b192 h193
                have e196 := (b192.2 219 (ty_ne (rfl : ty 219 = 13) hk_0.2.2.2 (by decide))).trans e188
                have e197 := (b192.2 a3 (ty_ne ha3 hk_0.2.2.2 (by decide))).trans e189
                refine w_iinc (A1 := [some (.ref 219), some (.long l_1), none, some (.long l_2), none, some (.ref a3), some (.int (vz i4)), some (.int (vz i5)), some (.int (vz x8)), some (.int (vz (x9 + 1))), some (.int (vz x10)), some (.long y11), none, some (.long y13), none]) e33_203 rfl (by decide) rfl ?_
                refine w_iinc (A1 := [some (.ref 219), some (.long l_1), none, some (.long l_2), none, some (.ref a3), some (.int (vz i4)), some (.int (vz i5)), some (.int (vz x8)), some (.int (vz (x9 + 1))), some (.int (vz (x10 + 1))), some (.long y11), none, some (.long y13), none]) e33_206 rfl (by decide) rfl ?_
                refine w_x e33_209 (fun _ => rfl) ?_
                exact w_sub (A1 := [some (.ref 219), some (.long l_1), none, some (.long l_2), none, some (.ref a3), some (.int (vz i4)), some (.int (vz i5)), some (.int (vz x8)), some (.int (vz (x9 + 1))), some (.int (vz (x10 + 1))), none, none, none, none]) (And.intro rfl (And.intro rfl (And.intro rfl (And.intro rfl (And.intro rfl (And.intro rfl (And.intro rfl (And.intro rfl (And.intro rfl trivial))))))))) ((ih.1) v194 x8 (x9 + 1) (x10 + 1) k1 k2 k3 k4 sn n hT195 (by omega) (by omega) (by omega) e196 ⟨hk_0.1, hk_0.2.1, hk_0.2.2.1, hk_0.2.2.2⟩ e197 (by omega) (by omega))
            ·
              refine w_ldL e33_163 (fun _ => rfl) rfl ?_
              refine w_ldA e33_165 (fun _ => rfl) rfl ?_
              refine w_get e33_166 hc_0 rfl ?_
              refine w_ldI e33_169 (fun _ => rfl) rfl ?_
              obtain ⟨f199, e198⟩ := tc_big hT hk_0.2.1
              refine w_lldO e33_171 e198 (by omega) (by omega) (by decide) (fun l200 => ?_)
              refine w_oL e33_172 (fun _ => rfl) (fun l201 => ?_)
              refine w_stL (j := 13) (A1 := [some (.ref 219), some (.long l_1), none, some (.long l_2), none, some (.ref a3), some (.int (vz i4)), some (.int (vz i5)), some (.int (vz x8)), some (.int (vz x9)), some (.int (vz x10)), some (.long y11), none, some (.long l201), none]) e33_173 (fun _ => rfl) (by decide) rfl ?_
              refine w_iinc (A1 := [some (.ref 219), some (.long l_1), none, some (.long l_2), none, some (.ref a3), some (.int (vz i4)), some (.int (vz i5)), some (.int (vz (x8 + 1))), some (.int (vz x9)), some (.int (vz x10)), some (.long y11), none, some (.long l201), none]) e33_175 rfl (by decide) rfl ?_
              refine w_ldL e33_178 (fun _ => rfl) rfl ?_
              refine w_oL e33_180 (fun _ => rfl) (fun l202 => ?_)
              refine w_lcmp e33_181 (fun q203 (h204 : -1 ≤ q203 ∧ q203 ≤ 1) h205 h206 => ?_)
              refine w_if e33_182 (by omega) (fun (h207 : q203 = 0) => ?_) (fun (h207 : q203 ≠ 0) => ?_)
              ·
                refine w_iinc (A1 := [some (.ref 219), some (.long l_1), none, some (.long l_2), none, some (.ref a3), some (.int (vz i4)), some (.int (vz i5)), some (.int (vz (x8 + 1))), some (.int (vz x9)), some (.int (vz (x10 + 1))), some (.long y11), none, some (.long l201), none]) e33_206 rfl (by decide) rfl ?_
                refine w_x e33_209 (fun _ => rfl) ?_
                exact w_sub (A1 := [some (.ref 219), some (.long l_1), none, some (.long l_2), none, some (.ref a3), some (.int (vz i4)), some (.int (vz i5)), some (.int (vz (x8 + 1))), some (.int (vz x9)), some (.int (vz (x10 + 1))), none, none, none, none]) (And.intro rfl (And.intro rfl (And.intro rfl (And.intro rfl (And.intro rfl (And.intro rfl (And.intro rfl (And.intro rfl (And.intro rfl trivial))))))))) ((ih.1) vh (x8 + 1) x9 (x10 + 1) k1 k2 k3 k4 sn n hT (by omega) (by omega) (by omega) hc_0 ⟨hk_0.1, hk_0.2.1, hk_0.2.2.1, hk_0.2.2.2⟩ hc_1 (by omega) (by omega))
              ·
                refine w_ldA e33_185 (fun _ => rfl) rfl ?_
                refine w_get e33_186 hc_0 rfl ?_
                refine w_ldI e33_189 (fun _ => rfl) rfl ?_
                refine w_ldL e33_191 (fun _ => rfl) rfl ?_
                obtain ⟨f209, e208⟩ := tc_big hT hk_0.2.2.1
                refine w_lst e33_193 e208 (by omega) (by omega) (by decide) (fun v212 b210 h211 => ?_)
                have hT213 := ts_big hT hk_0.2.2.1 b210 h211
                have e214 := (b210.2 219 (ty_ne (rfl : ty 219 = 13) hk_0.2.2.1 (by decide))).trans hc_0
                have e215 := (b210.2 a3 (ty_ne ha3 hk_0.2.2.1 (by decide))).trans hc_1
                refine w_ldA e33_194 (fun _ => rfl) rfl ?_
                refine w_get e33_195 e214 rfl ?_
                refine w_ldI e33_198 (fun _ => rfl) rfl ?_
                refine w_ldL e33_200 (fun _ => rfl) rfl ?_
                obtain ⟨f217, e216⟩ := tc_big hT213 hk_0.2.2.2
                refine w_lst e33_202 e216 (by omega) (by omega) (by decide) (fun v220 b218 h219 => ?_)
                have hT221 := ts_big hT213 hk_0.2.2.2 b218 h219
                have e222 := (b218.2 219 (ty_ne (rfl : ty 219 = 13) hk_0.2.2.2 (by decide))).trans e214
                have e223 := (b218.2 a3 (ty_ne ha3 hk_0.2.2.2 (by decide))).trans e215
                refine w_iinc (A1 := [some (.ref 219), some (.long l_1), none, some (.long l_2), none, some (.ref a3), some (.int (vz i4)), some (.int (vz i5)), some (.int (vz (x8 + 1))), some (.int (vz (x9 + 1))), some (.int (vz x10)), some (.long y11), none, some (.long l201), none]) e33_203 rfl (by decide) rfl ?_
                refine w_iinc (A1 := [some (.ref 219), some (.long l_1), none, some (.long l_2), none, some (.ref a3), some (.int (vz i4)), some (.int (vz i5)), some (.int (vz (x8 + 1))), some (.int (vz (x9 + 1))), some (.int (vz (x10 + 1))), some (.long y11), none, some (.long l201), none]) e33_206 rfl (by decide) rfl ?_
                refine w_x e33_209 (fun _ => rfl) ?_
                exact w_sub (A1 := [some (.ref 219), some (.long l_1), none, some (.long l_2), none, some (.ref a3), some (.int (vz i4)), some (.int (vz i5)), some (.int (vz (x8 + 1))), some (.int (vz (x9 + 1))), some (.int (vz (x10 + 1))), none, none, none, none]) (And.intro rfl (And.intro rfl (And.intro rfl (And.intro rfl (And.intro rfl (And.intro rfl (And.intro rfl (And.intro rfl (And.intro rfl trivial))))))))) ((ih.1) v220 (x8 + 1) (x9 + 1) (x10 + 1) k1 k2 k3 k4 sn n hT221 (by omega) (by omega) (by omega) e222 ⟨hk_0.1, hk_0.2.1, hk_0.2.2.1, hk_0.2.2.2⟩ e223 (by omega) (by omega))
        ·
          refine w_ldA e33_104 (fun _ => rfl) rfl ?_
          refine w_get e33_105 hc_0 rfl ?_
          refine w_ldI e33_108 (fun _ => rfl) rfl ?_
          refine w_ldA e33_110 (fun _ => rfl) rfl ?_
          refine w_get e33_111 hc_0 rfl ?_
          refine w_ldI e33_114 (fun _ => rfl) rfl ?_
          refine w_lldO e33_116 e139 (by omega) (by omega) (by decide) (fun l224 => ?_)
          obtain ⟨f226, e225⟩ := tc_big hT hk_0.2.2.1
          refine w_lst e33_117 e225 (by omega) (by omega) (by decide) (fun v229 b227 h228 => ?_)
          have hT230 := ts_big hT hk_0.2.2.1 b227 h228
          have e231 := (b227.2 219 (ty_ne (rfl : ty 219 = 13) hk_0.2.2.1 (by decide))).trans hc_0
          have e232 := (b227.2 a3 (ty_ne ha3 hk_0.2.2.1 (by decide))).trans hc_1
          refine w_ldA e33_118 (fun _ => rfl) rfl ?_
          refine w_get e33_119 e231 rfl ?_
          refine w_ldI e33_122 (fun _ => rfl) rfl ?_
          refine w_ldA e33_124 (fun _ => rfl) rfl ?_
          refine w_get e33_125 e231 rfl ?_
          refine w_ldI e33_128 (fun _ => rfl) rfl ?_
          obtain ⟨f234, e233⟩ := tc_big hT230 hk_0.2.1
          refine w_lldO e33_130 e233 (by omega) (by omega) (by decide) (fun l235 => ?_)
          obtain ⟨f237, e236⟩ := tc_big hT230 hk_0.2.2.2
          refine w_lst e33_131 e236 (by omega) (by omega) (by decide) (fun v240 b238 h239 => ?_)
          have hT241 := ts_big hT230 hk_0.2.2.2 b238 h239
          have e242 := (b238.2 219 (ty_ne (rfl : ty 219 = 13) hk_0.2.2.2 (by decide))).trans e231
          have e243 := (b238.2 a3 (ty_ne ha3 hk_0.2.2.2 (by decide))).trans e232
          refine w_iinc (A1 := [some (.ref 219), some (.long l_1), none, some (.long l_2), none, some (.ref a3), some (.int (vz i4)), some (.int (vz i5)), some (.int (vz (x8 + 1))), some (.int (vz x9)), some (.int (vz x10)), some (.long y11), none, some (.long y13), none]) e33_132 rfl (by decide) rfl ?_
          refine w_iinc (A1 := [some (.ref 219), some (.long l_1), none, some (.long l_2), none, some (.ref a3), some (.int (vz i4)), some (.int (vz i5)), some (.int (vz (x8 + 1))), some (.int (vz (x9 + 1))), some (.int (vz x10)), some (.long y11), none, some (.long y13), none]) e33_135 rfl (by decide) rfl ?_
          refine w_x e33_138 (fun _ => rfl) ?_
          exact w_sub (A1 := [some (.ref 219), some (.long l_1), none, some (.long l_2), none, some (.ref a3), some (.int (vz i4)), some (.int (vz i5)), some (.int (vz (x8 + 1))), some (.int (vz (x9 + 1))), some (.int (vz x10)), some (.long y11), none, some (.long y13), none]) (And.intro rfl (And.intro rfl (And.intro rfl (And.intro rfl (And.intro rfl (And.intro rfl (And.intro rfl (And.intro rfl (And.intro rfl (And.intro rfl (And.intro rfl trivial))))))))))) ((ih.2) v240 (x8 + 1) (x9 + 1) x10 y11 y13 k1 k2 k3 k4 sn n hT241 (by omega) (by omega) (by omega) e242 ⟨hk_0.1, hk_0.2.1, hk_0.2.2.1, hk_0.2.2.2⟩ e243 (by omega) (by omega))
set_option maxRecDepth 100000 in
set_option maxHeartbeats 4000000 in
theorem c33 {θ : tc_S} {v0 : (Bool × Bool) × vm_H} {vh : vm_H} (hT : tc θ v0 vh) {l_1 : Int64} {l_2 : Int64} {a3 : Nat} (ha3 : ty a3 = 1) {i4 : Int} (hi_4 : -2147483648 ≤ i4 ∧ i4 < 2147483648) {i5 : Int} (hi_5 : -2147483648 ≤ i5 ∧ i5 < 2147483648) : vm_Rp 1 30 33 [.ref 219, .long l_1, .long l_2, .ref a3, .int (vz i4), .int (vz i5)] vh (fun r v1 => (tc θ v0 v1) ∧ ∃ q : Int, ((0 ≤ q ∧ q ≤ 1)) ∧ r = some (.int (vz q))) := by
  have hok : (0 ≤ θ.1 ∧ θ.1 ≤ 8) ∧ (0 ≤ θ.2.1 ∧ θ.2.1 ≤ 16) ∧ (-2147483648 ≤ θ.2.2.2.1 ∧ θ.2.2.2.1 < 2147483648) ∧ (0 ≤ θ.2.2.2.2 ∧ θ.2.2.2.2 ≤ 8) := hT.1
  refine w_in (m := 7) ?_
  show vm_Wp _ _ _ 0 [some (.ref 219), some (.long l_1), none, some (.long l_2), none, some (.ref a3), some (.int (vz i4)), some (.int (vz i5)), none, none, none, none, none, none, none] [] _ _
  refine w_ldA e33_0 (fun _ => rfl) rfl ?_
  obtain ⟨k2, k3, k4, k5, s7, hk6, hs8, e1⟩ := tc_stp hT
  refine w_get e33_1 e1 rfl ?_
  refine w_ldA e33_4 (fun _ => rfl) rfl ?_
  obtain ⟨c10, hc11, e9⟩ := tc_poly hT ha3
  refine w_get e33_6 e9 rfl ?_
  refine w_iadd e33_9 ?_
  refine w_kS e33_10 rfl ?_
  refine w_ic e33_13 (by omega) (by omega) (fun (h12 : s7 + c10 ≤ 3660) => ?_) (fun (h12 : 3660 < s7 + c10) => ?_)
  ·
    refine w_kI e33_18 ?_
    refine w_stI (j := 8) (A1 := [some (.ref 219), some (.long l_1), none, some (.long l_2), none, some (.ref a3), some (.int (vz i4)), some (.int (vz i5)), some (.int (vz 0)), none, none, none, none, none, none]) e33_19 (fun _ => rfl) (by decide) rfl ?_
    refine w_kI e33_21 ?_
    refine w_stI (j := 9) (A1 := [some (.ref 219), some (.long l_1), none, some (.long l_2), none, some (.ref a3), some (.int (vz i4)), some (.int (vz i5)), some (.int (vz 0)), some (.int (vz 0)), none, none, none, none, none]) e33_22 (fun _ => rfl) (by decide) rfl ?_
    refine w_kI e33_24 ?_
    refine w_stI (j := 10) (A1 := [some (.ref 219), some (.long l_1), none, some (.long l_2), none, some (.ref a3), some (.int (vz i4)), some (.int (vz i5)), some (.int (vz 0)), some (.int (vz 0)), some (.int (vz 0)), none, none, none, none]) e33_25 (fun _ => rfl) (by decide) rfl ?_
    exact w_sub (A1 := [some (.ref 219), some (.long l_1), none, some (.long l_2), none, some (.ref a3), some (.int (vz i4)), some (.int (vz i5)), some (.int (vz 0)), some (.int (vz 0)), some (.int (vz 0)), none, none, none, none]) (And.intro rfl (And.intro rfl (And.intro rfl (And.intro rfl (And.intro rfl (And.intro rfl (And.intro rfl (And.intro rfl (And.intro rfl trivial))))))))) (((c33_L (θ := θ) (l_1 := l_1) (l_2 := l_2) (a3 := a3) (i4 := i4) (i5 := i5) (v0 := v0) ha3 hi_4 hi_5 _).1) vh 0 0 0 k2 k3 k4 k5 s7 c10 hT (by omega) (by omega) (by omega) e1 ⟨hk6.1, hk6.2.1, hk6.2.2.1, hk6.2.2.2⟩ e9 (by omega) (Nat.lt_succ_self _))
  ·
    refine w_kI e33_16 ?_
    exact w_rz e33_17 rfl (by omega) ⟨hT, 0, (by omega), rfl⟩
