theorem cpy_gl {F : Nat → Int64} {n : Int} {sp dp m : Nat} (h : ∀ t : Nat, (t : Int) < n → gl (F t)) {k : Nat} (h1 : (k : Int) < n ∨ dp ≤ k) (h2 : dp ≤ k ∧ k < dp + m → ((sp + (k - dp) : Nat) : Int) < n) (h3 : ¬ (dp ≤ k ∧ k < dp + m) → (k : Int) < n) : gl (va_cpy F F sp dp m k) := by
  unfold va_cpy
  split
  · rename_i q
    exact h _ (h2 q)
  · rename_i q
    exact h _ (h3 q)
theorem adr_ok {n q n1 t : Int} {K F K1 F1 : Nat → Int64} {key v : Int64} (hn : 0 ≤ n ∧ n ≤ 60) (h : ∀ t : Nat, (t : Int) < n → gl (F t)) (hv : v.toInt ≠ 0) (ha : adr n K F key v q n1 K1 F1 t) : ((0 ≤ n1 ∧ n1 ≤ 60) ∧ ∀ t : Nat, (t : Int) < n1 → gl (F1 t)) ∧ (0 ≤ q ∧ q ≤ 1) := by
  rcases ha with ⟨a1, a2, a3, a4, a5⟩ | ⟨a0, ⟨ht, hk, hk2⟩, ⟨a1, a2, a3, a4, a5⟩ | ⟨a1, a2, a3, a4, a5, a6, a7⟩ | ⟨a1, a2, a3, a4, a5, a6, a7⟩ | ⟨a1, a2, a3, a4, a5, a6⟩⟩
  · subst a2; subst a4; exact ⟨⟨hn, h⟩, by omega⟩
  · subst a2; subst a4; exact ⟨⟨hn, h⟩, by omega⟩
  · refine ⟨⟨by omega, fun j hj => ?_⟩, by omega⟩
    rw [a7]
    by_cases e : j = t.toNat
    · rw [e, up_s]
      unfold sr at a3
      exact ⟨hv, a3.1, a3.2⟩
    · rw [up_o e]
      exact cpy_gl h (by omega) (fun z => by omega) (fun z => by omega)
  · refine ⟨⟨by omega, fun j hj => ?_⟩, by omega⟩
    rw [a7]
    by_cases e : j = t.toNat
    · rw [e, up_s]
      unfold sr at a3
      exact ⟨a4, a3.1, a3.2⟩
    · rw [up_o e]; exact h j (by omega)
  · refine ⟨⟨by omega, fun j hj => ?_⟩, by omega⟩
    rw [a6]
    unfold va_cpy
    split
    · rw [up_o (by omega)]; exact h _ (by omega)
    · rw [up_o (by omega)]; exact h _ (by omega)
/-- what term does to the class's polynomials -/
def tX (nv p : Int) (V : Nat → Int) (vh v1 : vm_H) (Nf : Nat → Int) (Kf Ff : Nat → Nat → Int64) (i1 : Int) (v : Int64) (i3 q : Int) : Prop :=
  ((∀ b, 5 ≤ b ∧ b < 55 → vm_at v1 b = vm_at vh b) ∧ ((q = 0 ∧ (¬ (0 ≤ i1 ∧ i1 < p) ∨ ¬ val nv.toNat (vz i3))) ∨ (q = 1 ∧ (0 ≤ i1 ∧ i1 < p) ∧ val nv.toNat (vz i3) ∧ v.toInt = 0))) ∨
  ((0 ≤ i1 ∧ i1 < p) ∧ val nv.toNat (vz i3) ∧ v.toInt ≠ 0 ∧ (∀ b, 5 ≤ b ∧ b < 55 → b ≠ 7 + 3 * i1.toNat → b ≠ 7 + 3 * i1.toNat + 1 → b ≠ 7 + 3 * i1.toNat + 2 → vm_at v1 b = vm_at vh b) ∧ ∃ (n1 : Int) (K1 F1 : Nat → Int64) (t : Int), cP v1 i1.toNat n1 K1 F1 ∧ adr (Nf i1.toNat) (Kf i1.toNat) (Ff i1.toNat) (kof V (vz i3) nv.toNat) v q n1 K1 F1 t)
set_option maxRecDepth 100000 in
set_option maxHeartbeats 4000000 in
theorem c47x {θ : tc_S} {vh : vm_H} (hT : tc θ ((false, false), vh) vh) {V : Nat → Int} (hV : vm_at vh 5 = some (.inl (0, 8, .inl (fun j => vz (V j))))) (hVr : ∀ j, 0 ≤ V j ∧ V j < 8) {Nf : Nat → Int} {Kf Ff : Nat → Nat → Int64} (hC : ∀ i, i < 16 → cP vh i (Nf i) (Kf i) (Ff i)) {i1 : Int} (hi_1 : -2147483648 ≤ i1 ∧ i1 < 2147483648) {l_2 : Int64} {i3 : Int} (hi_3 : -2147483648 ≤ i3 ∧ i3 < 2147483648) : vm_Rp 3 79 47 [.ref 1, .int (vz i1), .long l_2, .int (vz i3)] vh (fun r v1 => ∃ q : Int, (0 ≤ q ∧ q ≤ 1) ∧ kp vh v1 ∧ tc θ ((false, false), v1) v1 ∧ tX θ.1 θ.2.1 V vh v1 Nf Kf Ff i1 l_2 i3 q ∧ r = some (.int (vz q))) := by
  have hok := hT.1
  refine w_in (m := 0) ?_
  show vm_Wp _ _ _ 0 [some (.ref 1), some (.int (vz i1)), some (.long l_2), none, some (.int (vz i3))] [] _ _
  refine w_ldA e47_0 (fun _ => rfl) rfl ?_
  refine w_ldI e47_1 (fun _ => rfl) rfl ?_
  obtain ⟨m2, m3, m4, m5, hm6, hm7, hm8, hm9, hm10, hm11, e1⟩ := tc_main hT
  refine w_cv e47_2 (by decide) rfl e1 rfl (Nat.le_of_ble_eq_true rfl) (Nat.le_of_ble_eq_true rfl) (Nat.le_of_ble_eq_true rfl) (by decide) (by decide) (c59 rfl hT hi_1) (fun o v hq => ?_)
  obtain ⟨rfl, q1, h1, rfl⟩ := hq
  refine w_if e47_5 (by omega) (fun (h0 : q1 = 0) => ?_) (fun (h0 : q1 ≠ 0) => ?_)
  · refine w_kI e47_20 ?_
    exact w_rz e47_21 rfl (by omega) ⟨0, by omega, fun _ _ => rfl, hT, Or.inl ⟨fun _ _ => rfl, Or.inl ⟨rfl, Or.inl (by omega)⟩⟩, rfl⟩
  · refine w_ldA e47_8 (fun _ => rfl) rfl ?_
    refine w_get e47_9 e1 rfl ?_
    refine w_ldI e47_12 (fun _ => rfl) rfl ?_
    obtain ⟨hn8, eP⟩ := tc_places hT
    refine w_cv e47_14 (by decide) rfl eP rfl (Nat.le_of_ble_eq_true rfl) (Nat.le_of_ble_eq_true rfl) (Nat.le_of_ble_eq_true rfl) (by decide) (by decide) (c7x eP hV hn8 hVr hi_3) (fun o v hq => ?_)
    obtain ⟨rfl, q2, h2, rfl⟩ := hq
    refine w_if e47_17 (by omega) (fun (h3 : q2 ≠ 0) => ?_) (fun (h3 : q2 = 0) => ?_)
    · have hval : val (θ.1).toNat (vz i3) := h2.2.mp (by omega)
      refine w_ldL e47_22 (fun _ => rfl) rfl ?_
      refine w_x e47_23 (fun _ => rfl) ?_
      refine w_lcmp e47_24 (fun q3 b3 a3 d3 => ?_)
      have c3 : (q3 = 0 ↔ l_2.toInt = (Int64.ofNat 0).toInt) ∧ (q3 < 0 ↔ l_2.toInt < (Int64.ofNat 0).toInt) := lc_i a3 d3
      have z0 : (Int64.ofNat 0).toInt = 0 := rfl
      refine w_if e47_25 (by omega) (fun (h4 : q3 ≠ 0) => ?_) (fun (h4 : q3 = 0) => ?_)
      · refine w_ldA e47_30 (fun _ => rfl) rfl ?_
        refine w_get e47_31 e1 rfl ?_
        refine w_ldI e47_34 (fun _ => rfl) rfl ?_
        obtain ⟨f, hf, e2⟩ := tc_polys hT
        refine w_qld e47_35 e2 (by decide) (by omega) (by omega) (by decide) (hf (i1).toNat (by omega)) ?_
        refine w_ldA e47_36 (fun _ => rfl) rfl ?_
        refine w_get e47_37 e1 rfl ?_
        refine w_ldI e47_40 (fun _ => rfl) rfl ?_
        refine w_cv e47_42 (by decide) rfl eP rfl (Nat.le_of_ble_eq_true rfl) (Nat.le_of_ble_eq_true rfl) (Nat.le_of_ble_eq_true rfl) (by decide) (by decide) (c8x eP hV hn8 hVr hi_3) (fun o v hq => ?_)
        obtain ⟨rfl, rfl⟩ := hq
        refine w_ldL e47_45 (fun _ => rfl) rfl ?_
        have hc := hC (i1).toNat (by omega)
        refine w_cv e47_46 (by decide) rfl hc.2.1 rfl (Nat.le_of_ble_eq_true rfl) (Nat.le_of_ble_eq_true rfl) (Nat.le_of_ble_eq_true rfl) (by decide) (by decide) (c23x (cP_pm hc) hc.1.1 (by omega) hc.1.2) (fun o v hq => ?_)
        obtain ⟨q4, n1, K1, F1, t, hpm, hadr, rfl⟩ := hq
        have hok4 := adr_ok hc.1.1 hc.1.2 (by omega) hadr
        have hT2 := tc_pm hT (by omega) hpm hok4.1.1
        have hcp : cP v (i1).toNat n1 K1 F1 := ⟨hok4.1, hpm.2.2.1, hpm.2.2.2.1, hpm.2.2.2.2⟩
        refine w_if e47_49 (by omega) (fun (h5 : q4 ≠ 0) => ?_) (fun (h5 : q4 = 0) => ?_)
        · refine w_ldA e47_54 (fun _ => rfl) rfl ?_
          obtain ⟨r2, r3, r4, r5, g6, g7, g8, g9, g10, g11, e4⟩ := tc_main hT2
          refine w_get e47_55 e4 rfl ?_
          refine w_ldI e47_58 (fun _ => rfl) rfl ?_
          have e5 := tc_hyps hT2
          refine w_zldO e47_59 e5 (by omega) (by omega) (by decide) (fun q5 h6 h7 => ?_)
          refine w_if e47_60 h6 (fun (h8 : q5 = 0) => ?_) (fun (h8 : q5 ≠ 0) => ?_)
          · refine w_kI e47_67 ?_
            exact w_rz e47_68 rfl (by omega) ⟨1, by omega, kp_pm (by omega) hpm, hT2, Or.inr ⟨by omega, hval, by omega, fun b _ b1 b2 b3 => hpm.2.1 b b1 b2 b3, n1, K1, F1, t, hcp, by rw [show (1 : Int) = q4 by omega]; exact hadr⟩, rfl⟩
          · refine w_ldA e47_63 (fun _ => rfl) rfl ?_
            refine w_cv e47_64 (by decide) rfl e4 rfl (Nat.le_of_ble_eq_true rfl) (Nat.le_of_ble_eq_true rfl) (Nat.le_of_ble_eq_true rfl) (by decide) (by decide) (c63 rfl (tc_fu hT2)) (fun o w hq => ?_)
            obtain ⟨hT3, rfl⟩ := hq
            have hkp := tc_keep hT3
            refine w_kI e47_67 ?_
            exact w_rz e47_68 rfl (by omega) ⟨1, by omega, kp_t (kp_pm (by omega) hpm) (kp_c hT3), tc_rf5 hT3, Or.inr ⟨by omega, hval, by omega, fun b hb b1 b2 b3 => (hkp b hb).trans (hpm.2.1 b b1 b2 b3), n1, K1, F1, t, cP_keep hcp (by omega) (hk7 hkp), by rw [show (1 : Int) = q4 by omega]; exact hadr⟩, rfl⟩
        · refine w_kI e47_52 ?_
          exact w_rz e47_53 rfl (by omega) ⟨0, by omega, kp_pm (by omega) hpm, hT2, Or.inr ⟨by omega, hval, by omega, fun b _ b1 b2 b3 => hpm.2.1 b b1 b2 b3, n1, K1, F1, t, hcp, by rw [← h5]; exact hadr⟩, rfl⟩
      · refine w_kI e47_28 ?_
        exact w_rz e47_29 rfl (by omega) ⟨1, by omega, fun _ _ => rfl, hT, Or.inl ⟨fun _ _ => rfl, Or.inr ⟨rfl, by omega, hval, by omega⟩⟩, rfl⟩
    · refine w_kI e47_20 ?_
      exact w_rz e47_21 rfl (by omega) ⟨0, by omega, fun _ _ => rfl, hT, Or.inl ⟨fun _ _ => rfl, Or.inl ⟨rfl, Or.inr (fun h9 => absurd (h2.2.mpr h9) (by omega))⟩⟩, rfl⟩
