set_option maxRecDepth 100000 in
set_option maxHeartbeats 4000000 in
theorem c59 {θ : tc_S} {v0 : (Bool × Bool) × vm_H} {vh : vm_H} (hz : v0.1.1 = false) (hT : tc θ v0 vh) {i1 : Int} (hi_1 : -2147483648 ≤ i1 ∧ i1 < 2147483648) : vm_Rp 0 0 59 [.ref 1, .int (vz i1)] vh (fun r v1 => vh = v1 ∧ ∃ q : Int, ((0 ≤ q ∧ q ≤ 1) ∧ ((q = 0 ∧ (i1 < 0 ∨ θ.2.1 ≤ i1)) ∨ (q = 1 ∧ 0 ≤ i1 ∧ i1 < θ.2.1)) ∧ θ.2.1 ≤ 16) ∧ r = some (.int (vz q))) := by
  have hok : (0 ≤ θ.1 ∧ θ.1 ≤ 8) ∧ (0 ≤ θ.2.1 ∧ θ.2.1 ≤ 16) ∧ (-2147483648 ≤ θ.2.2.2.1 ∧ θ.2.2.2.1 < 2147483648) ∧ (0 ≤ θ.2.2.2.2 ∧ θ.2.2.2.2 ≤ 8) := hT.1
  refine w_in (m := 0) ?_
  show vm_Wp _ _ _ 0 [some (.ref 1), some (.int (vz i1))] [] _ _
  refine w_ldI e59_0 (fun _ => rfl) rfl ?_
  refine w_if e59_1 hi_1 (fun (h1 : i1 < 0) => ?_) (fun (h1 : 0 ≤ i1) => ?_)
  ·
    refine w_kI e59_16 ?_
    exact w_rz e59_17 rfl (by omega) ⟨rfl, 0, (by omega), rfl⟩
  ·
    refine w_ldI e59_4 (fun _ => rfl) rfl ?_
    refine w_ldA e59_5 (fun _ => rfl) rfl ?_
    obtain ⟨m3, m4, m5, m6, hm7, hm8, hm9, hm10, hm11, hm12, e2⟩ := tc_main hT
    refine w_get e59_6 e2 rfl ?_
    refine w_ic e59_9 hi_1 (by omega) (fun (h13 : θ.2.1 ≤ i1) => ?_) (fun (h13 : i1 < θ.2.1) => ?_)
    ·
      refine w_kI e59_16 ?_
      exact w_rz e59_17 rfl (by omega) ⟨rfl, 0, (by omega), rfl⟩
    ·
      refine w_kI e59_12 ?_
      refine w_x e59_13 (fun _ => rfl) ?_
      exact w_rz e59_17 rfl (by omega) ⟨rfl, 1, (by omega), rfl⟩
set_option maxRecDepth 100000 in
set_option maxHeartbeats 4000000 in
theorem c60 {θ : tc_S} {v0 : (Bool × Bool) × vm_H} {vh : vm_H} (hz : v0.1.1 = false) (hT : tc θ v0 vh) {i1 : Int} (hi_1 : -2147483648 ≤ i1 ∧ i1 < 2147483648) : vm_Rp 0 0 60 [.ref 1, .int (vz i1)] vh (fun r v1 => vh = v1 ∧ ∃ q : Int, ((0 ≤ q ∧ q ≤ 1) ∧ (q = 0 ∨ (0 ≤ i1 ∧ i1 < θ.2.2.2.2 ∧ θ.2.2.2.2 ≤ 8))) ∧ r = some (.int (vz q))) := by
  have hok : (0 ≤ θ.1 ∧ θ.1 ≤ 8) ∧ (0 ≤ θ.2.1 ∧ θ.2.1 ≤ 16) ∧ (-2147483648 ≤ θ.2.2.2.1 ∧ θ.2.2.2.1 < 2147483648) ∧ (0 ≤ θ.2.2.2.2 ∧ θ.2.2.2.2 ≤ 8) := hT.1
  refine w_in (m := 0) ?_
  show vm_Wp _ _ _ 0 [some (.ref 1), some (.int (vz i1))] [] _ _
  refine w_ldI e60_0 (fun _ => rfl) rfl ?_
  refine w_if e60_1 hi_1 (fun (h1 : i1 < 0) => ?_) (fun (h1 : 0 ≤ i1) => ?_)
  ·
    refine w_kI e60_19 ?_
    exact w_rz e60_20 rfl (by omega) ⟨rfl, 0, (by omega), rfl⟩
  ·
    refine w_ldI e60_4 (fun _ => rfl) rfl ?_
    refine w_ldA e60_5 (fun _ => rfl) rfl ?_
    obtain ⟨m3, m4, m5, m6, hm7, hm8, hm9, hm10, hm11, hm12, e2⟩ := tc_main hT
    refine w_get e60_6 e2 rfl ?_
    obtain ⟨s14, hs15, e13⟩ := tc_tri hT
    refine w_get e60_9 e13 rfl ?_
    refine w_ic e60_12 hi_1 (by omega) (fun (h16 : s14 ≤ i1) => ?_) (fun (h16 : i1 < s14) => ?_)
    ·
      refine w_kI e60_19 ?_
      exact w_rz e60_20 rfl (by omega) ⟨rfl, 0, (by omega), rfl⟩
    ·
      refine w_kI e60_15 ?_
      refine w_x e60_16 (fun _ => rfl) ?_
      exact w_rz e60_20 rfl (by omega) ⟨rfl, 1, (by omega), rfl⟩
set_option maxRecDepth 100000 in
set_option maxHeartbeats 4000000 in
theorem c61_L {θ : tc_S} {v0 : (Bool × Bool) × vm_H} {vh : vm_H} (hz : v0.1.1 = false) (hT : tc θ v0 vh) : ∀ N : Nat, (∀ (x1 : Int) (x2 : Int), (0 ≤ x1 ∧ x1 ≤ x2) → (0 ≤ x2 ∧ x2 ≤ 16) → ((16 - x2 : Int).toNat < N) → vm_Wp 0 0 61 4 [some (.ref 1), some (.int (vz x1)), some (.int (vz x2))] [] vh (vq_P 61 (fun r v1 => vh = v1 ∧ ∃ q : Int, (-2147483648 ≤ q ∧ q < 2147483648) ∧ r = some (.int (vz q))))) := by
  intro N
  induction N with
  | zero => exact (by intros; omega)
  | succ N ih =>
    ·
      intro x1 x2 hx1 hx2 hN
      have hok : (0 ≤ θ.1 ∧ θ.1 ≤ 8) ∧ (0 ≤ θ.2.1 ∧ θ.2.1 ≤ 16) ∧ (-2147483648 ≤ θ.2.2.2.1 ∧ θ.2.2.2.1 < 2147483648) ∧ (0 ≤ θ.2.2.2.2 ∧ θ.2.2.2.2 ≤ 8) := hT.1
      refine w_ldI e61_4 (fun _ => rfl) rfl ?_
      refine w_ldA e61_5 (fun _ => rfl) rfl ?_
      obtain ⟨m2, m3, m4, m5, hm6, hm7, hm8, hm9, hm10, hm11, e1⟩ := tc_main hT
      refine w_get e61_6 e1 rfl ?_
      refine w_ic e61_9 (by omega) (by omega) (fun (h12 : θ.2.1 ≤ x2) => ?_) (fun (h12 : x2 < θ.2.1) => ?_)
      ·
        refine w_ldI e61_30 (fun _ => rfl) rfl ?_
        exact w_ri e61_31 rfl ⟨rfl, x1, (by omega), rfl⟩
      ·
        refine w_ldA e61_12 (fun _ => rfl) rfl ?_
        refine w_get e61_13 e1 rfl ?_
        refine w_ldI e61_16 (fun _ => rfl) rfl ?_
        have e13 := tc_hyps hT
        refine w_zldO e61_17 e13 (by omega) (by omega) (by decide) (fun q14 h15 h16 => ?_)
        refine w_if e61_18 h15 (fun (h17 : q14 = 0) => ?_) (fun (h17 : q14 ≠ 0) => ?_)
        ·
          refine w_iinc (A1 := [some (.ref 1), some (.int (vz x1)), some (.int (vz (x2 + 1)))]) e61_24 rfl (by decide) rfl ?_
          refine w_x e61_27 (fun _ => rfl) ?_
          exact w_sub (A1 := [some (.ref 1), some (.int (vz x1)), some (.int (vz (x2 + 1)))]) (And.intro rfl (And.intro rfl (And.intro rfl trivial))) ((ih) x1 (x2 + 1) (by omega) (by omega) (by omega))
        ·
          refine w_iinc (A1 := [some (.ref 1), some (.int (vz (x1 + 1))), some (.int (vz x2))]) e61_21 rfl (by decide) rfl ?_
          refine w_iinc (A1 := [some (.ref 1), some (.int (vz (x1 + 1))), some (.int (vz (x2 + 1)))]) e61_24 rfl (by decide) rfl ?_
          refine w_x e61_27 (fun _ => rfl) ?_
          exact w_sub (A1 := [some (.ref 1), some (.int (vz (x1 + 1))), some (.int (vz (x2 + 1)))]) (And.intro rfl (And.intro rfl (And.intro rfl trivial))) ((ih) (x1 + 1) (x2 + 1) (by omega) (by omega) (by omega))
set_option maxRecDepth 100000 in
set_option maxHeartbeats 4000000 in
theorem c61 {θ : tc_S} {v0 : (Bool × Bool) × vm_H} {vh : vm_H} (hz : v0.1.1 = false) (hT : tc θ v0 vh) : vm_Rp 0 0 61 [.ref 1] vh (fun r v1 => vh = v1 ∧ ∃ q : Int, (-2147483648 ≤ q ∧ q < 2147483648) ∧ r = some (.int (vz q))) := by
  have hok : (0 ≤ θ.1 ∧ θ.1 ≤ 8) ∧ (0 ≤ θ.2.1 ∧ θ.2.1 ≤ 16) ∧ (-2147483648 ≤ θ.2.2.2.1 ∧ θ.2.2.2.1 < 2147483648) ∧ (0 ≤ θ.2.2.2.2 ∧ θ.2.2.2.2 ≤ 8) := hT.1
  refine w_in (m := 2) ?_
  show vm_Wp _ _ _ 0 [some (.ref 1), none, none] [] _ _
  refine w_kI e61_0 ?_
  refine w_stI (j := 1) (A1 := [some (.ref 1), some (.int (vz 0)), none]) e61_1 (fun _ => rfl) (by decide) rfl ?_
  refine w_kI e61_2 ?_
  refine w_stI (j := 2) (A1 := [some (.ref 1), some (.int (vz 0)), some (.int (vz 0))]) e61_3 (fun _ => rfl) (by decide) rfl ?_
  exact w_sub (A1 := [some (.ref 1), some (.int (vz 0)), some (.int (vz 0))]) (And.intro rfl (And.intro rfl (And.intro rfl trivial))) (((c61_L (θ := θ) (v0 := v0) (vh := vh) hz hT _)) 0 0 (by omega) (by omega) (Nat.lt_succ_self _))
set_option maxRecDepth 100000 in
set_option maxHeartbeats 4000000 in
theorem c65 {θ : tc_S} {v0 : (Bool × Bool) × vm_H} {vh : vm_H} (hz : v0.1.1 = false) (hT : tc θ v0 vh) {i1 : Int} (hi_1 : 0 ≤ i1 ∧ i1 < 16) : vm_Rp 0 0 65 [.ref 1, .int (vz i1)] vh (fun r v1 => vh = v1 ∧ ∃ q : Int, ((0 ≤ q ∧ q ≤ 1)) ∧ r = some (.int (vz q))) := by
  have hok : (0 ≤ θ.1 ∧ θ.1 ≤ 8) ∧ (0 ≤ θ.2.1 ∧ θ.2.1 ≤ 16) ∧ (-2147483648 ≤ θ.2.2.2.1 ∧ θ.2.2.2.1 < 2147483648) ∧ (0 ≤ θ.2.2.2.2 ∧ θ.2.2.2.2 ≤ 8) := hT.1
  refine w_in (m := 0) ?_
  show vm_Wp _ _ _ 0 [some (.ref 1), some (.int (vz i1))] [] _ _
  refine w_ldA e65_0 (fun _ => rfl) rfl ?_
  obtain ⟨m2, m3, m4, m5, hm6, hm7, hm8, hm9, hm10, hm11, e1⟩ := tc_main hT
  refine w_get e65_1 e1 rfl ?_
  refine w_ldI e65_4 (fun _ => rfl) rfl ?_
  have e12 := tc_hyps hT
  refine w_zldO e65_5 e12 (by omega) (by omega) (by decide) (fun q13 h14 h15 => ?_)
  refine w_if e65_6 h14 (fun (h16 : q13 = 0) => ?_) (fun (h16 : q13 ≠ 0) => ?_)
  ·
    refine w_kI e65_25 ?_
    exact w_rz e65_26 rfl (by omega) ⟨rfl, 0, (by omega), rfl⟩
  ·
    refine w_ldA e65_9 (fun _ => rfl) rfl ?_
    refine w_get e65_10 e1 rfl ?_
    refine w_ldI e65_13 (fun _ => rfl) rfl ?_
    obtain ⟨f18, hf19, e17⟩ := tc_polys hT
    obtain ⟨a20, h21, h22⟩ : ∃ b, f18 (i1).toNat = some b ∧ ty b = 1 := ⟨_, hf19 _ (by omega), ty_pi _ (by omega)⟩
    refine w_qld e65_14 e17 (by decide) (by omega) (by omega) (by decide) h21 ?_
    obtain ⟨c24, hc25, e23⟩ := tc_poly hT h22
    refine w_get e65_15 e23 rfl ?_
    refine w_if e65_18 (by omega) (fun (h26 : c24 ≤ 0) => ?_) (fun (h26 : 0 < c24) => ?_)
    ·
      refine w_kI e65_25 ?_
      exact w_rz e65_26 rfl (by omega) ⟨rfl, 0, (by omega), rfl⟩
    ·
      refine w_kI e65_21 ?_
      refine w_x e65_22 (fun _ => rfl) ?_
      exact w_rz e65_26 rfl (by omega) ⟨rfl, 1, (by omega), rfl⟩
set_option maxRecDepth 100000 in
set_option maxHeartbeats 4000000 in
theorem c66_L {θ : tc_S} {v0 : (Bool × Bool) × vm_H} {vh : vm_H} (hz : v0.1.1 = false) (hT : tc θ v0 vh) : ∀ N : Nat, (∀ (x1 : Int), (0 ≤ x1 ∧ x1 ≤ 16) → ((16 - x1 : Int).toNat < N) → vm_Wp 1 21 66 2 [some (.ref 1), some (.int (vz x1))] [] vh (vq_P 66 (fun r v1 => vh = v1 ∧ ∃ q : Int, ((0 ≤ q ∧ q ≤ 1)) ∧ r = some (.int (vz q))))) := by
  intro N
  induction N with
  | zero => exact (by intros; omega)
  | succ N ih =>
    ·
      intro x1 hx1 hN
      have hok : (0 ≤ θ.1 ∧ θ.1 ≤ 8) ∧ (0 ≤ θ.2.1 ∧ θ.2.1 ≤ 16) ∧ (-2147483648 ≤ θ.2.2.2.1 ∧ θ.2.2.2.1 < 2147483648) ∧ (0 ≤ θ.2.2.2.2 ∧ θ.2.2.2.2 ≤ 8) := hT.1
      refine w_ldI e66_2 (fun _ => rfl) rfl ?_
      refine w_ldA e66_3 (fun _ => rfl) rfl ?_
      obtain ⟨m2, m3, m4, m5, hm6, hm7, hm8, hm9, hm10, hm11, e1⟩ := tc_main hT
      refine w_get e66_4 e1 rfl ?_
      refine w_ic e66_7 (by omega) (by omega) (fun (h12 : θ.2.1 ≤ x1) => ?_) (fun (h12 : x1 < θ.2.1) => ?_)
      ·
        refine w_kI e66_26 ?_
        exact w_rz e66_27 rfl (by omega) ⟨rfl, 0, (by omega), rfl⟩
      ·
        refine w_ldA e66_10 (fun _ => rfl) rfl ?_
        refine w_ldI e66_11 (fun _ => rfl) rfl ?_
        refine w_cv e66_12 (by decide) rfl e1 rfl (Nat.le_of_ble_eq_true rfl) (Nat.le_of_ble_eq_true rfl) (Nat.le_of_ble_eq_true rfl) (by decide) (by decide) (c65 hz hT (by omega)) (fun o13 v14 hq15 => ?_)
        obtain ⟨rfl, q17, h18, rfl⟩ := hq15
        refine w_if e66_15 (by omega) (fun (h19 : q17 = 0) => ?_) (fun (h19 : q17 ≠ 0) => ?_)
        ·
          refine w_iinc (A1 := [some (.ref 1), some (.int (vz (x1 + 1)))]) e66_20 rfl (by decide) rfl ?_
          refine w_x e66_23 (fun _ => rfl) ?_
          exact w_sub (A1 := [some (.ref 1), some (.int (vz (x1 + 1)))]) (And.intro rfl (And.intro rfl trivial)) ((ih) (x1 + 1) (by omega) (by omega))
        ·
          refine w_kI e66_18 ?_
          exact w_rz e66_19 rfl (by omega) ⟨rfl, 1, (by omega), rfl⟩
set_option maxRecDepth 100000 in
set_option maxHeartbeats 4000000 in
theorem c66 {θ : tc_S} {v0 : (Bool × Bool) × vm_H} {vh : vm_H} (hz : v0.1.1 = false) (hT : tc θ v0 vh) : vm_Rp 1 21 66 [.ref 1] vh (fun r v1 => vh = v1 ∧ ∃ q : Int, ((0 ≤ q ∧ q ≤ 1)) ∧ r = some (.int (vz q))) := by
  have hok : (0 ≤ θ.1 ∧ θ.1 ≤ 8) ∧ (0 ≤ θ.2.1 ∧ θ.2.1 ≤ 16) ∧ (-2147483648 ≤ θ.2.2.2.1 ∧ θ.2.2.2.1 < 2147483648) ∧ (0 ≤ θ.2.2.2.2 ∧ θ.2.2.2.2 ≤ 8) := hT.1
  refine w_in (m := 1) ?_
  show vm_Wp _ _ _ 0 [some (.ref 1), none] [] _ _
  refine w_kI e66_0 ?_
  refine w_stI (j := 1) (A1 := [some (.ref 1), some (.int (vz 0))]) e66_1 (fun _ => rfl) (by decide) rfl ?_
  exact w_sub (A1 := [some (.ref 1), some (.int (vz 0))]) (And.intro rfl (And.intro rfl trivial)) (((c66_L (θ := θ) (v0 := v0) (vh := vh) hz hT _)) 0 (by omega) (Nat.lt_succ_self _))
set_option maxRecDepth 100000 in
set_option maxHeartbeats 4000000 in
theorem c71_L {θ : tc_S} {v0 : (Bool × Bool) × vm_H} {vh : vm_H} (hz : v0.1.1 = false) (hT : tc θ v0 vh) {a1 : Nat} (ha1 : ty a1 = 1) : ∀ N : Nat, (∀ (x2 : Int), (0 ≤ x2 ∧ x2 ≤ 40) → ((40 - x2 : Int).toNat < N) → vm_Wp 1 22 71 2 [some (.ref 1), some (.ref a1), some (.int (vz x2))] [] vh (vq_P 71 (fun r v1 => vh = v1 ∧ ∃ q : Int, ((0 ≤ q ∧ q ≤ 1)) ∧ r = some (.int (vz q))))) := by
  intro N
  induction N with
  | zero => exact (by intros; omega)
  | succ N ih =>
    ·
      intro x2 hx2 hN
      have hok : (0 ≤ θ.1 ∧ θ.1 ≤ 8) ∧ (0 ≤ θ.2.1 ∧ θ.2.1 ≤ 16) ∧ (-2147483648 ≤ θ.2.2.2.1 ∧ θ.2.2.2.1 < 2147483648) ∧ (0 ≤ θ.2.2.2.2 ∧ θ.2.2.2.2 ≤ 8) := hT.1
      refine w_ldI e71_2 (fun _ => rfl) rfl ?_
      refine w_ldA e71_3 (fun _ => rfl) rfl ?_
      obtain ⟨m2, m3, m4, m5, hm6, hm7, hm8, hm9, hm10, hm11, e1⟩ := tc_main hT
      refine w_get e71_4 e1 rfl ?_
      refine w_ic e71_7 (by omega) (by omega) (fun (h12 : m2 ≤ x2) => ?_) (fun (h12 : x2 < m2) => ?_)
      ·
        refine w_kI e71_34 ?_
        exact w_rz e71_35 rfl (by omega) ⟨rfl, 0, (by omega), rfl⟩
      ·
        refine w_ldA e71_10 (fun _ => rfl) rfl ?_
        refine w_get e71_11 e1 rfl ?_
        refine w_ldI e71_14 (fun _ => rfl) rfl ?_
        obtain ⟨f14, hf15, e13⟩ := tc_rows hT
        obtain ⟨a16, h17, h18⟩ : ∃ b, f14 (x2).toNat = some b ∧ ty b = 3 := ⟨_, hf15 _ (by omega), ty_ri _ (by omega)⟩
        refine w_qld e71_15 e13 (by decide) (by omega) (by omega) (by decide) h17 ?_
        obtain ⟨p20, d21, hp22, hd23, e19⟩ := tc_row hT h18
        refine w_get e71_16 e19 rfl ?_
        refine w_ldA e71_19 (fun _ => rfl) rfl ?_
        obtain ⟨c25, hc26, e24⟩ := tc_poly hT (ty_r h18)
        refine w_cv e71_20 (by decide) rfl e24 rfl (Nat.le_of_ble_eq_true rfl) (Nat.le_of_ble_eq_true rfl) (Nat.le_of_ble_eq_true rfl) (by decide) (by decide) (c21 hT (ty_r h18) ha1) (fun o27 v28 hq29 => ?_)
        obtain ⟨rfl, q31, h32, rfl⟩ := hq29
        refine w_if e71_23 (by omega) (fun (h33 : q31 = 0) => ?_) (fun (h33 : q31 ≠ 0) => ?_)
        ·
          refine w_iinc (A1 := [some (.ref 1), some (.ref a1), some (.int (vz (x2 + 1)))]) e71_28 rfl (by decide) rfl ?_
          refine w_x e71_31 (fun _ => rfl) ?_
          exact w_sub (A1 := [some (.ref 1), some (.ref a1), some (.int (vz (x2 + 1)))]) (And.intro rfl (And.intro rfl (And.intro rfl trivial))) ((ih) (x2 + 1) (by omega) (by omega))
        ·
          refine w_kI e71_26 ?_
          exact w_rz e71_27 rfl (by omega) ⟨rfl, 1, (by omega), rfl⟩
set_option maxRecDepth 100000 in
set_option maxHeartbeats 4000000 in
theorem c71 {θ : tc_S} {v0 : (Bool × Bool) × vm_H} {vh : vm_H} (hz : v0.1.1 = false) (hT : tc θ v0 vh) {a1 : Nat} (ha1 : ty a1 = 1) : vm_Rp 1 22 71 [.ref 1, .ref a1] vh (fun r v1 => vh = v1 ∧ ∃ q : Int, ((0 ≤ q ∧ q ≤ 1)) ∧ r = some (.int (vz q))) := by
  have hok : (0 ≤ θ.1 ∧ θ.1 ≤ 8) ∧ (0 ≤ θ.2.1 ∧ θ.2.1 ≤ 16) ∧ (-2147483648 ≤ θ.2.2.2.1 ∧ θ.2.2.2.1 < 2147483648) ∧ (0 ≤ θ.2.2.2.2 ∧ θ.2.2.2.2 ≤ 8) := hT.1
  refine w_in (m := 1) ?_
  show vm_Wp _ _ _ 0 [some (.ref 1), some (.ref a1), none] [] _ _
  refine w_kI e71_0 ?_
  refine w_stI (j := 2) (A1 := [some (.ref 1), some (.ref a1), some (.int (vz 0))]) e71_1 (fun _ => rfl) (by decide) rfl ?_
  exact w_sub (A1 := [some (.ref 1), some (.ref a1), some (.int (vz 0))]) (And.intro rfl (And.intro rfl (And.intro rfl trivial))) (((c71_L (θ := θ) (a1 := a1) (v0 := v0) (vh := vh) hz hT ha1 _)) 0 (by omega) (Nat.lt_succ_self _))
set_option maxRecDepth 100000 in
set_option maxHeartbeats 4000000 in
theorem c63 {θ : tc_S} {v0 : (Bool × Bool) × vm_H} {vh : vm_H} (hz : v0.1.1 = false) (hT : tc θ v0 vh) : vm_Rp 1 23 63 [.ref 1] vh (fun r v1 => (tc θ v0 v1) ∧ r = none) := by
  have hok : (0 ≤ θ.1 ∧ θ.1 ≤ 8) ∧ (0 ≤ θ.2.1 ∧ θ.2.1 ≤ 16) ∧ (-2147483648 ≤ θ.2.2.2.1 ∧ θ.2.2.2.1 < 2147483648) ∧ (0 ≤ θ.2.2.2.2 ∧ θ.2.2.2.2 ≤ 8) := hT.1
  refine w_in (m := 0) ?_
  show vm_Wp _ _ _ 0 [some (.ref 1)] [] _ _
  refine w_ldA e63_0 (fun _ => rfl) rfl ?_
  obtain ⟨m2, m3, m4, m5, hm6, hm7, hm8, hm9, hm10, hm11, e1⟩ := tc_main hT
  refine w_get e63_1 e1 rfl ?_
  refine w_kI e63_4 ?_
  obtain ⟨s13, hs14, e12⟩ := tc_tri hT
  refine w_put e63_5 e12 (Nat.le_of_ble_eq_true rfl) rfl (fun v17 b15 h16 => ?_)
  have h16 : vm_at v17 217 = some (.inr (4, [.ref 218, .int (vz 0)])) := h16
  have hT18 := ts_tri hT (by omega) b15 h16
  have e19 := (b15.2 1 (by decide)).trans e1
  refine w_ldA e63_8 (fun _ => rfl) rfl ?_
  refine w_get e63_9 e19 rfl ?_
  obtain ⟨c21, hc22, e20⟩ := tc_poly hT18 (rfl : ty 227 = 1)
  refine w_cv e63_12 (by decide) rfl e20 rfl (Nat.le_of_ble_eq_true rfl) (Nat.le_of_ble_eq_true rfl) (Nat.le_of_ble_eq_true rfl) (by decide) (by decide) (c17 (tc_fz hT18) (rfl : ty 227 = 1) (Or.inr (by decide))) (fun o23 v24 hq25 => ?_)
  obtain ⟨hT26, rfl⟩ := hq25
  have hT27 := tc_uf hT18 hT26
  have e28 := (tc_k1 hT26).trans e19
  refine w_ldA e63_15 (fun _ => rfl) rfl ?_
  refine w_get e63_16 e28 rfl ?_
  obtain ⟨c30, hc31, e29⟩ := tc_poly hT27 (rfl : ty 230 = 1)
  refine w_cv e63_19 (by decide) rfl e29 rfl (Nat.le_of_ble_eq_true rfl) (Nat.le_of_ble_eq_true rfl) (Nat.le_of_ble_eq_true rfl) (by decide) (by decide) (c17 (tc_fz hT27) (rfl : ty 230 = 1) (Or.inr (by decide))) (fun o32 v33 hq34 => ?_)
  obtain ⟨hT35, rfl⟩ := hq34
  have hT36 := tc_uf hT27 hT35
  have e37 := (tc_k1 hT35).trans e28
  refine w_ldA e63_22 (fun _ => rfl) rfl ?_
  refine w_get e63_23 e37 rfl ?_
  refine w_kI e63_26 ?_
  refine w_cs e63_27 (by decide) (Nat.le_of_ble_eq_true rfl) (Nat.le_of_ble_eq_true rfl) (Nat.le_of_ble_eq_true rfl) (by decide) (by decide) (c123 (tc_fz hT36) (rfl : ty 233 = 15) (by omega)) (fun o38 v39 hq40 => ?_)
  obtain ⟨hT41, rfl⟩ := hq40
  have hT42 := tc_uf hT36 hT41
  have e43 := (tc_k1 hT41).trans e37
  exact w_rv e63_30 rfl ⟨hT42, rfl⟩
set_option maxRecDepth 100000 in
set_option maxHeartbeats 4000000 in
theorem c64_L {θ : tc_S} {v0 : (Bool × Bool) × vm_H} (hz : v0.1.1 = false) (hu : v0.1.2 = false) {i1 : Int} (hi_1 : 0 ≤ i1 ∧ i1 < 8) {i2 : Int} (hi_2 : 0 ≤ i2 ∧ i2 < 8) : ∀ N : Nat, (∀ (vh : vm_H) (x3 : Int), (tc θ v0 vh) → (0 ≤ x3 ∧ x3 ≤ 16) → ((100 - x3 : Int).toNat < N) → vm_Wp 3 68 64 2 [some (.ref 1), some (.int (vz i1)), some (.int (vz i2)), some (.int (vz x3))] [] vh (vq_P 64 (fun r v1 => (tc θ v0 v1) ∧ r = none))) ∧ (∀ (vh : vm_H) (x3 : Int), (tc θ v0 vh) → (0 ≤ x3 ∧ x3 ≤ 16) → ((20 - x3 : Int).toNat < N) → vm_Wp 3 68 64 51 [some (.ref 1), some (.int (vz i1)), some (.int (vz i2)), some (.int (vz x3))] [] vh (vq_P 64 (fun r v1 => (tc θ v0 v1) ∧ r = none))) := by
  intro N
  induction N with
  | zero => exact ⟨by intros; omega, by intros; omega⟩
  | succ N ih =>
    refine ⟨?_, ?_⟩
    ·
      intro vh x3 hT hx3 hN
      have hok : (0 ≤ θ.1 ∧ θ.1 ≤ 8) ∧ (0 ≤ θ.2.1 ∧ θ.2.1 ≤ 16) ∧ (-2147483648 ≤ θ.2.2.2.1 ∧ θ.2.2.2.1 < 2147483648) ∧ (0 ≤ θ.2.2.2.2 ∧ θ.2.2.2.2 ≤ 8) := hT.1
      refine w_ldI e64_2 (fun _ => rfl) rfl ?_
      refine w_ldA e64_3 (fun _ => rfl) rfl ?_
      obtain ⟨m2, m3, m4, m5, hm6, hm7, hm8, hm9, hm10, hm11, e1⟩ := tc_main hT
      refine w_get e64_4 e1 rfl ?_
      refine w_ic e64_7 (by omega) (by omega) (fun (h12 : θ.2.1 ≤ x3) => ?_) (fun (h12 : x3 < θ.2.1) => ?_)
      ·
        refine w_ldA e64_29 (fun _ => rfl) rfl ?_
        refine w_get e64_30 e1 rfl ?_
        refine w_ldA e64_33 (fun _ => rfl) rfl ?_
        refine w_get e64_34 e1 rfl ?_
        obtain ⟨hn14, e13⟩ := tc_places hT
        refine w_cv e64_37 (by decide) rfl e13 rfl (Nat.le_of_ble_eq_true rfl) (Nat.le_of_ble_eq_true rfl) (Nat.le_of_ble_eq_true rfl) (by decide) (by decide) (c10 (tc_fz hT) (rfl : ty 224 = 1) (Or.inr (by decide))) (fun o15 v16 hq17 => ?_)
        obtain ⟨hT18, rfl⟩ := hq17
        have hT19 := tc_uf hT hT18
        have e20 := (tc_k1 hT18).trans e1
        refine w_ldA e64_40 (fun _ => rfl) rfl ?_
        refine w_get e64_41 e20 rfl ?_
        refine w_ldI e64_44 (fun _ => rfl) rfl ?_
        refine w_ldI e64_45 (fun _ => rfl) rfl ?_
        obtain ⟨hn22, e21⟩ := tc_places hT19
        refine w_cv e64_46 (by decide) rfl e21 rfl (Nat.le_of_ble_eq_true rfl) (Nat.le_of_ble_eq_true rfl) (Nat.le_of_ble_eq_true rfl) (by decide) (by decide) (c6 (tc_fz hT19) hu (by omega) (by omega)) (fun o23 v24 hq25 => ?_)
        obtain ⟨hT26, rfl⟩ := hq25
        have hT27 := tc_uf hT19 hT26
        have e28 := (tc_k1 hT26).trans e20
        refine w_kI e64_49 ?_
        refine w_stI (j := 3) (A1 := [some (.ref 1), some (.int (vz i1)), some (.int (vz i2)), some (.int (vz 0))]) e64_50 (fun _ => rfl) (by decide) rfl ?_
        exact w_sub (A1 := [some (.ref 1), some (.int (vz i1)), some (.int (vz i2)), some (.int (vz 0))]) (And.intro rfl (And.intro rfl (And.intro rfl (And.intro rfl trivial)))) ((ih.2) v24 0 hT27 (by omega) (by omega))
      ·
        refine w_ldA e64_10 (fun _ => rfl) rfl ?_
        refine w_get e64_11 e1 rfl ?_
        refine w_ldA e64_14 (fun _ => rfl) rfl ?_
        refine w_get e64_15 e1 rfl ?_
        refine w_ldI e64_18 (fun _ => rfl) rfl ?_
        obtain ⟨f30, hf31, e29⟩ := tc_polys hT
        obtain ⟨a32, h33, h34⟩ : ∃ b, f30 (x3).toNat = some b ∧ ty b = 1 := ⟨_, hf31 _ (by omega), ty_pi _ (by omega)⟩
        refine w_qld e64_19 e29 (by decide) (by omega) (by omega) (by decide) h33 ?_
        obtain ⟨hn36, e35⟩ := tc_places hT
        refine w_cv e64_20 (by decide) rfl e35 rfl (Nat.le_of_ble_eq_true rfl) (Nat.le_of_ble_eq_true rfl) (Nat.le_of_ble_eq_true rfl) (by decide) (by decide) (c10 (tc_fz hT) h34 (Or.inl hu)) (fun o37 v38 hq39 => ?_)
        obtain ⟨hT40, rfl⟩ := hq39
        have hT41 := tc_uf hT hT40
        have e42 := (tc_k1 hT40).trans e1
        refine w_iinc (A1 := [some (.ref 1), some (.int (vz i1)), some (.int (vz i2)), some (.int (vz (x3 + 1)))]) e64_23 rfl (by decide) rfl ?_
        refine w_x e64_26 (fun _ => rfl) ?_
        exact w_sub (A1 := [some (.ref 1), some (.int (vz i1)), some (.int (vz i2)), some (.int (vz (x3 + 1)))]) (And.intro rfl (And.intro rfl (And.intro rfl (And.intro rfl trivial)))) ((ih.1) v38 (x3 + 1) hT41 (by omega) (by omega))
    ·
      intro vh x3 hT hx3 hN
      have hok : (0 ≤ θ.1 ∧ θ.1 ≤ 8) ∧ (0 ≤ θ.2.1 ∧ θ.2.1 ≤ 16) ∧ (-2147483648 ≤ θ.2.2.2.1 ∧ θ.2.2.2.1 < 2147483648) ∧ (0 ≤ θ.2.2.2.2 ∧ θ.2.2.2.2 ≤ 8) := hT.1
      refine w_ldI e64_51 (fun _ => rfl) rfl ?_
      refine w_ldA e64_52 (fun _ => rfl) rfl ?_
      obtain ⟨m44, m45, m46, m47, hm48, hm49, hm50, hm51, hm52, hm53, e43⟩ := tc_main hT
      refine w_get e64_53 e43 rfl ?_
      refine w_ic e64_56 (by omega) (by omega) (fun (h54 : θ.2.1 ≤ x3) => ?_) (fun (h54 : x3 < θ.2.1) => ?_)
      ·
        refine w_ldA e64_78 (fun _ => rfl) rfl ?_
        refine w_get e64_79 e43 rfl ?_
        refine w_ldA e64_82 (fun _ => rfl) rfl ?_
        refine w_get e64_83 e43 rfl ?_
        obtain ⟨hn56, e55⟩ := tc_places hT
        refine w_cv e64_86 (by decide) rfl e55 rfl (Nat.le_of_ble_eq_true rfl) (Nat.le_of_ble_eq_true rfl) (Nat.le_of_ble_eq_true rfl) (by decide) (by decide) (c11 (tc_fz hT) (rfl : ty 224 = 1) (Or.inr (by decide))) (fun o57 v58 hq59 => ?_)
        obtain ⟨hT60, rfl⟩ := hq59
        have hT61 := tc_uf hT hT60
        have e62 := (tc_k1 hT60).trans e43
        exact w_rv e64_89 rfl ⟨hT61, rfl⟩
      ·
        refine w_ldA e64_59 (fun _ => rfl) rfl ?_
        refine w_get e64_60 e43 rfl ?_
        refine w_ldA e64_63 (fun _ => rfl) rfl ?_
        refine w_get e64_64 e43 rfl ?_
        refine w_ldI e64_67 (fun _ => rfl) rfl ?_
        obtain ⟨f64, hf65, e63⟩ := tc_polys hT
        obtain ⟨a66, h67, h68⟩ : ∃ b, f64 (x3).toNat = some b ∧ ty b = 1 := ⟨_, hf65 _ (by omega), ty_pi _ (by omega)⟩
        refine w_qld e64_68 e63 (by decide) (by omega) (by omega) (by decide) h67 ?_
        obtain ⟨hn70, e69⟩ := tc_places hT
        refine w_cv e64_69 (by decide) rfl e69 rfl (Nat.le_of_ble_eq_true rfl) (Nat.le_of_ble_eq_true rfl) (Nat.le_of_ble_eq_true rfl) (by decide) (by decide) (c11 (tc_fz hT) h68 (Or.inl hu)) (fun o71 v72 hq73 => ?_)
        obtain ⟨hT74, rfl⟩ := hq73
        have hT75 := tc_uf hT hT74
        have e76 := (tc_k1 hT74).trans e43
        refine w_iinc (A1 := [some (.ref 1), some (.int (vz i1)), some (.int (vz i2)), some (.int (vz (x3 + 1)))]) e64_72 rfl (by decide) rfl ?_
        refine w_x e64_75 (fun _ => rfl) ?_
        exact w_sub (A1 := [some (.ref 1), some (.int (vz i1)), some (.int (vz i2)), some (.int (vz (x3 + 1)))]) (And.intro rfl (And.intro rfl (And.intro rfl (And.intro rfl trivial)))) ((ih.2) v72 (x3 + 1) hT75 (by omega) (by omega))
set_option maxRecDepth 100000 in
set_option maxHeartbeats 4000000 in
theorem c64 {θ : tc_S} {v0 : (Bool × Bool) × vm_H} {vh : vm_H} (hz : v0.1.1 = false) (hT : tc θ v0 vh) (hu : v0.1.2 = false) {i1 : Int} (hi_1 : 0 ≤ i1 ∧ i1 < 8) {i2 : Int} (hi_2 : 0 ≤ i2 ∧ i2 < 8) : vm_Rp 3 68 64 [.ref 1, .int (vz i1), .int (vz i2)] vh (fun r v1 => (tc θ v0 v1) ∧ r = none) := by
  have hok : (0 ≤ θ.1 ∧ θ.1 ≤ 8) ∧ (0 ≤ θ.2.1 ∧ θ.2.1 ≤ 16) ∧ (-2147483648 ≤ θ.2.2.2.1 ∧ θ.2.2.2.1 < 2147483648) ∧ (0 ≤ θ.2.2.2.2 ∧ θ.2.2.2.2 ≤ 8) := hT.1
  refine w_in (m := 1) ?_
  show vm_Wp _ _ _ 0 [some (.ref 1), some (.int (vz i1)), some (.int (vz i2)), none] [] _ _
  refine w_kI e64_0 ?_
  refine w_stI (j := 3) (A1 := [some (.ref 1), some (.int (vz i1)), some (.int (vz i2)), some (.int (vz 0))]) e64_1 (fun _ => rfl) (by decide) rfl ?_
  exact w_sub (A1 := [some (.ref 1), some (.int (vz i1)), some (.int (vz i2)), some (.int (vz 0))]) (And.intro rfl (And.intro rfl (And.intro rfl (And.intro rfl trivial)))) (((c64_L (θ := θ) (i1 := i1) (i2 := i2) (v0 := v0) hz hu hi_1 hi_2 _).1) vh 0 hT (by omega) (Nat.lt_succ_self _))
set_option maxRecDepth 100000 in
set_option maxHeartbeats 4000000 in
theorem c67_L {θ : tc_S} {v0 : (Bool × Bool) × vm_H} (hz : v0.1.1 = false) : ∀ N : Nat, (∀ (vh : vm_H) (x1 : Int), (tc θ v0 vh) → (0 ≤ x1 ∧ x1 ≤ 16) → ((16 - x1 : Int).toNat < N) → vm_Wp 4 97 67 7 [some (.ref 1), some (.int (vz x1))] [] vh (vq_P 67 (fun r v1 => (tc θ v0 v1) ∧ r = none))) := by
  intro N
  induction N with
  | zero => exact (by intros; omega)
  | succ N ih =>
    ·
      intro vh x1 hT hx1 hN
      have hok : (0 ≤ θ.1 ∧ θ.1 ≤ 8) ∧ (0 ≤ θ.2.1 ∧ θ.2.1 ≤ 16) ∧ (-2147483648 ≤ θ.2.2.2.1 ∧ θ.2.2.2.1 < 2147483648) ∧ (0 ≤ θ.2.2.2.2 ∧ θ.2.2.2.2 ≤ 8) := hT.1
      refine w_ldI e67_7 (fun _ => rfl) rfl ?_
      refine w_ldA e67_8 (fun _ => rfl) rfl ?_
      obtain ⟨m17, m18, m19, m20, hm21, hm22, hm23, hm24, hm25, hm26, e16⟩ := tc_main hT
      refine w_get e67_9 e16 rfl ?_
      refine w_ic e67_12 (by omega) (by omega) (fun (h27 : θ.2.1 ≤ x1) => ?_) (fun (h27 : x1 < θ.2.1) => ?_)
      ·
        exact w_rv e67_70 rfl ⟨hT, rfl⟩
      ·
        refine w_ldA e67_15 (fun _ => rfl) rfl ?_
        refine w_ldI e67_16 (fun _ => rfl) rfl ?_
        refine w_cv e67_17 (by decide) rfl e16 rfl (Nat.le_of_ble_eq_true rfl) (Nat.le_of_ble_eq_true rfl) (Nat.le_of_ble_eq_true rfl) (by decide) (by decide) (c65 hz hT (by omega)) (fun o28 v29 hq30 => ?_)
        obtain ⟨rfl, q32, h33, rfl⟩ := hq30
        refine w_if e67_20 (by omega) (fun (h34 : q32 = 0) => ?_) (fun (h34 : q32 ≠ 0) => ?_)
        ·
          refine w_iinc (A1 := [some (.ref 1), some (.int (vz (x1 + 1)))]) e67_64 rfl (by decide) rfl ?_
          refine w_x e67_67 (fun _ => rfl) ?_
          exact w_sub (A1 := [some (.ref 1), some (.int (vz (x1 + 1)))]) (And.intro rfl (And.intro rfl trivial)) ((ih) vh (x1 + 1) hT (by omega) (by omega))
        ·
          refine w_ldA e67_23 (fun _ => rfl) rfl ?_
          refine w_get e67_24 e16 rfl ?_
          refine w_kB e67_27 rfl ?_
          refine w_ic e67_29 (by omega) (by omega) (fun (h35 : 40 ≤ m17) => ?_) (fun (h35 : m17 < 40) => ?_)
          ·
            refine w_iinc (A1 := [some (.ref 1), some (.int (vz (x1 + 1)))]) e67_64 rfl (by decide) rfl ?_
            refine w_x e67_67 (fun _ => rfl) ?_
            exact w_sub (A1 := [some (.ref 1), some (.int (vz (x1 + 1)))]) (And.intro rfl (And.intro rfl trivial)) ((ih) vh (x1 + 1) hT (by omega) (by omega))
          ·
            refine w_ldA e67_32 (fun _ => rfl) rfl ?_
            refine w_get e67_33 e16 rfl ?_
            refine w_ldA e67_36 (fun _ => rfl) rfl ?_
            refine w_get e67_37 e16 rfl ?_
            obtain ⟨f37, hf38, e36⟩ := tc_rows hT
            obtain ⟨a39, h40, h41⟩ : ∃ b, f37 (m17).toNat = some b ∧ ty b = 3 := ⟨_, hf38 _ (by omega), ty_ri _ (by omega)⟩
            refine w_qld e67_40 e36 (by decide) (by omega) (by omega) (by decide) h40 ?_
            refine w_ldA e67_41 (fun _ => rfl) rfl ?_
            refine w_get e67_42 e16 rfl ?_
            refine w_ldI e67_45 (fun _ => rfl) rfl ?_
            obtain ⟨f43, hf44, e42⟩ := tc_polys hT
            obtain ⟨a45, h46, h47⟩ : ∃ b, f43 (x1).toNat = some b ∧ ty b = 1 := ⟨_, hf44 _ (by omega), ty_pi _ (by omega)⟩
            refine w_qld e67_46 e42 (by decide) (by omega) (by omega) (by decide) h46 ?_
            refine w_ldA e67_47 (fun _ => rfl) rfl ?_
            refine w_get e67_48 e16 rfl ?_
            obtain ⟨p49, d50, hp51, hd52, e48⟩ := tc_row hT h41
            refine w_cv e67_51 (by decide) rfl e48 rfl (Nat.le_of_ble_eq_true rfl) (Nat.le_of_ble_eq_true rfl) (Nat.le_of_ble_eq_true rfl) (by decide) (by decide) (c29 (tc_fz hT) h41 h47) (fun o53 v54 hq55 => ?_)
            obtain ⟨hT56, rfl⟩ := hq55
            have hT57 := tc_uf hT hT56
            have e58 := (tc_k1 hT56).trans e16
            refine w_ldA e67_54 (fun _ => rfl) rfl ?_
            refine w_x e67_55 (fun _ => rfl) ?_
            refine w_get e67_56 e58 rfl ?_
            refine w_kI e67_59 ?_
            refine w_iadd e67_60 ?_
            refine w_put e67_61 e58 (Nat.le_of_ble_eq_true rfl) rfl (fun v61 b59 h60 => ?_)
            have h60 : vm_at v61 1 = some (.inr (5, [.ref 2, .ref 6, .ref 55, .int (vz θ.2.1), .ref 56, .int (vz (m17 + 1)), .ref 217, .ref 219, .ref 224, .ref 227, .ref 230, .ref 233, .ref 234, .ref 237, .int (vz m18), .int (vz θ.2.2.2.1), .int (vz m19), .int (vz m20)])) := h60
            have hT62 := ts_main hz hT57 (by omega) b59 h60
            refine w_iinc (A1 := [some (.ref 1), some (.int (vz (x1 + 1)))]) e67_64 rfl (by decide) rfl ?_
            refine w_x e67_67 (fun _ => rfl) ?_
            exact w_sub (A1 := [some (.ref 1), some (.int (vz (x1 + 1)))]) (And.intro rfl (And.intro rfl trivial)) ((ih) v61 (x1 + 1) hT62 (by omega) (by omega))
set_option maxRecDepth 100000 in
set_option maxHeartbeats 4000000 in
theorem c67 {θ : tc_S} {v0 : (Bool × Bool) × vm_H} {vh : vm_H} (hz : v0.1.1 = false) (hT : tc θ v0 vh) : vm_Rp 4 97 67 [.ref 1] vh (fun r v1 => (tc θ v0 v1) ∧ r = none) := by
  have hok : (0 ≤ θ.1 ∧ θ.1 ≤ 8) ∧ (0 ≤ θ.2.1 ∧ θ.2.1 ≤ 16) ∧ (-2147483648 ≤ θ.2.2.2.1 ∧ θ.2.2.2.1 < 2147483648) ∧ (0 ≤ θ.2.2.2.2 ∧ θ.2.2.2.2 ≤ 8) := hT.1
  refine w_in (m := 1) ?_
  show vm_Wp _ _ _ 0 [some (.ref 1), none] [] _ _
  refine w_ldA e67_0 (fun _ => rfl) rfl ?_
  refine w_kI e67_1 ?_
  obtain ⟨m2, m3, m4, m5, hm6, hm7, hm8, hm9, hm10, hm11, e1⟩ := tc_main hT
  refine w_put e67_2 e1 (Nat.le_of_ble_eq_true rfl) rfl (fun v14 b12 h13 => ?_)
  have h13 : vm_at v14 1 = some (.inr (5, [.ref 2, .ref 6, .ref 55, .int (vz θ.2.1), .ref 56, .int (vz 0), .ref 217, .ref 219, .ref 224, .ref 227, .ref 230, .ref 233, .ref 234, .ref 237, .int (vz m3), .int (vz θ.2.2.2.1), .int (vz m4), .int (vz m5)])) := h13
  have hT15 := ts_main hz hT (by omega) b12 h13
  refine w_kI e67_5 ?_
  refine w_stI (j := 1) (A1 := [some (.ref 1), some (.int (vz 0))]) e67_6 (fun _ => rfl) (by decide) rfl ?_
  exact w_sub (A1 := [some (.ref 1), some (.int (vz 0))]) (And.intro rfl (And.intro rfl trivial)) (((c67_L (θ := θ) (v0 := v0) hz _)) v14 0 hT15 (by omega) (Nat.lt_succ_self _))
set_option maxRecDepth 100000 in
set_option maxHeartbeats 4000000 in
theorem c68_L {θ : tc_S} {v0 : (Bool × Bool) × vm_H} (hz : v0.1.1 = false) : ∀ N : Nat, (∀ (vh : vm_H) (x1 : Int), (tc θ v0 vh) → (0 ≤ x1 ∧ x1 ≤ 40) → ((40 - x1 : Int).toNat < N) → vm_Wp 2 51 68 2 [some (.ref 1), some (.int (vz x1))] [] vh (vq_P 68 (fun r v1 => (tc θ v0 v1) ∧ ∃ q : Int, ((0 ≤ q ∧ q ≤ 1)) ∧ r = some (.int (vz q))))) := by
  intro N
  induction N with
  | zero => exact (by intros; omega)
  | succ N ih =>
    ·
      intro vh x1 hT hx1 hN
      have hok : (0 ≤ θ.1 ∧ θ.1 ≤ 8) ∧ (0 ≤ θ.2.1 ∧ θ.2.1 ≤ 16) ∧ (-2147483648 ≤ θ.2.2.2.1 ∧ θ.2.2.2.1 < 2147483648) ∧ (0 ≤ θ.2.2.2.2 ∧ θ.2.2.2.2 ≤ 8) := hT.1
      refine w_ldI e68_2 (fun _ => rfl) rfl ?_
      refine w_ldA e68_3 (fun _ => rfl) rfl ?_
      obtain ⟨m2, m3, m4, m5, hm6, hm7, hm8, hm9, hm10, hm11, e1⟩ := tc_main hT
      refine w_get e68_4 e1 rfl ?_
      refine w_ic e68_7 (by omega) (by omega) (fun (h12 : m2 ≤ x1) => ?_) (fun (h12 : x1 < m2) => ?_)
      ·
        refine w_kI e68_47 ?_
        exact w_rz e68_48 rfl (by omega) ⟨hT, 0, (by omega), rfl⟩
      ·
        refine w_ldA e68_10 (fun _ => rfl) rfl ?_
        refine w_get e68_11 e1 rfl ?_
        refine w_ldI e68_14 (fun _ => rfl) rfl ?_
        obtain ⟨f14, hf15, e13⟩ := tc_rows hT
        obtain ⟨a16, h17, h18⟩ : ∃ b, f14 (x1).toNat = some b ∧ ty b = 3 := ⟨_, hf15 _ (by omega), ty_ri _ (by omega)⟩
        refine w_qld e68_15 e13 (by decide) (by omega) (by omega) (by decide) h17 ?_
        obtain ⟨p20, d21, hp22, hd23, e19⟩ := tc_row hT h18
        refine w_get e68_16 e19 rfl ?_
        refine w_kI e68_19 ?_
        refine w_ic e68_20 hp22 (by omega) (fun (h24 : p20 ≠ -1) => ?_) (fun (h24 : p20 = -1) => ?_)
        ·
          refine w_iinc (A1 := [some (.ref 1), some (.int (vz (x1 + 1)))]) e68_41 rfl (by decide) rfl ?_
          refine w_x e68_44 (fun _ => rfl) ?_
          exact w_sub (A1 := [some (.ref 1), some (.int (vz (x1 + 1)))]) (And.intro rfl (And.intro rfl trivial)) ((ih) vh (x1 + 1) hT (by omega) (by omega))
        ·
          refine w_ldA e68_23 (fun _ => rfl) rfl ?_
          refine w_get e68_24 e1 rfl ?_
          refine w_ldA e68_27 (fun _ => rfl) rfl ?_
          refine w_get e68_28 e1 rfl ?_
          refine w_ldI e68_31 (fun _ => rfl) rfl ?_
          obtain ⟨a25, h26, h27⟩ : ∃ b, f14 (x1).toNat = some b ∧ ty b = 3 := ⟨_, hf15 _ (by omega), ty_ri _ (by omega)⟩
          refine w_qld e68_32 e13 (by decide) (by omega) (by omega) (by decide) h26 ?_
          obtain ⟨p29, d30, hp31, hd32, e28⟩ := tc_row hT h27
          refine w_get e68_33 e28 rfl ?_
          obtain ⟨c34, hc35, e33⟩ := tc_poly hT (rfl : ty 224 = 1)
          refine w_cv e68_36 (by decide) rfl e33 rfl (Nat.le_of_ble_eq_true rfl) (Nat.le_of_ble_eq_true rfl) (Nat.le_of_ble_eq_true rfl) (by decide) (by decide) (c19 (tc_fz hT) (rfl : ty 224 = 1) (Or.inr (by decide)) (ty_r h27)) (fun o36 v37 hq38 => ?_)
          obtain ⟨hT39, rfl⟩ := hq38
          have hT40 := tc_uf hT hT39
          have e41 := (tc_k1 hT39).trans e1
          refine w_kI e68_39 ?_
          exact w_rz e68_40 rfl (by omega) ⟨hT40, 1, (by omega), rfl⟩
set_option maxRecDepth 100000 in
set_option maxHeartbeats 4000000 in
theorem c68 {θ : tc_S} {v0 : (Bool × Bool) × vm_H} {vh : vm_H} (hz : v0.1.1 = false) (hT : tc θ v0 vh) : vm_Rp 2 51 68 [.ref 1] vh (fun r v1 => (tc θ v0 v1) ∧ ∃ q : Int, ((0 ≤ q ∧ q ≤ 1)) ∧ r = some (.int (vz q))) := by
  have hok : (0 ≤ θ.1 ∧ θ.1 ≤ 8) ∧ (0 ≤ θ.2.1 ∧ θ.2.1 ≤ 16) ∧ (-2147483648 ≤ θ.2.2.2.1 ∧ θ.2.2.2.1 < 2147483648) ∧ (0 ≤ θ.2.2.2.2 ∧ θ.2.2.2.2 ≤ 8) := hT.1
  refine w_in (m := 1) ?_
  show vm_Wp _ _ _ 0 [some (.ref 1), none] [] _ _
  refine w_kI e68_0 ?_
  refine w_stI (j := 1) (A1 := [some (.ref 1), some (.int (vz 0))]) e68_1 (fun _ => rfl) (by decide) rfl ?_
  exact w_sub (A1 := [some (.ref 1), some (.int (vz 0))]) (And.intro rfl (And.intro rfl trivial)) (((c68_L (θ := θ) (v0 := v0) hz _)) vh 0 hT (by omega) (Nat.lt_succ_self _))
set_option maxRecDepth 100000 in
set_option maxHeartbeats 4000000 in
theorem c72_L {θ : tc_S} {v0 : (Bool × Bool) × vm_H} (hz : v0.1.1 = false) {i1 : Int} (hi_1 : -2147483648 ≤ i1 ∧ i1 < 2147483648) : ∀ N : Nat, (∀ (vh : vm_H) (x2 : Int) (x3 : Int), (tc θ v0 vh) → (-2147483648 ≤ x2 ∧ x2 < 2147483648) → (0 ≤ x3 ∧ x3 < 2147483648) → ((2147483648 - x3 : Int).toNat < N) → vm_Wp 3 92 72 25 [some (.ref 1), some (.int (vz i1)), some (.int (vz x2)), some (.int (vz x3))] [] vh (vq_P 72 (fun r v1 => (tc θ v0 v1) ∧ ∃ q : Int, ((0 ≤ q ∧ q ≤ 1)) ∧ r = some (.int (vz q))))) := by
  intro N
  induction N with
  | zero => exact (by intros; omega)
  | succ N ih =>
    ·
      intro vh x2 x3 hT hx2 hx3 hN
      have hok : (0 ≤ θ.1 ∧ θ.1 ≤ 8) ∧ (0 ≤ θ.2.1 ∧ θ.2.1 ≤ 16) ∧ (-2147483648 ≤ θ.2.2.2.1 ∧ θ.2.2.2.1 < 2147483648) ∧ (0 ≤ θ.2.2.2.2 ∧ θ.2.2.2.2 ≤ 8) := hT.1
      refine w_ldI e72_25 (fun _ => rfl) rfl ?_
      refine w_ldI e72_26 (fun _ => rfl) rfl ?_
      refine w_ic e72_27 (by omega) hi_1 (fun (h25 : i1 < x3) => ?_) (fun (h25 : x3 ≤ i1) => ?_)
      ·
        refine w_kI e72_106 ?_
        exact w_rz e72_107 rfl (by omega) ⟨hT, 0, (by omega), rfl⟩
      ·
        refine w_ldA e72_30 (fun _ => rfl) rfl ?_
        obtain ⟨m27, m28, m29, m30, hm31, hm32, hm33, hm34, hm35, hm36, e26⟩ := tc_main hT
        refine w_get e72_31 e26 rfl ?_
        refine w_ldI e72_34 (fun _ => rfl) rfl ?_
        refine w_ldA e72_35 (fun _ => rfl) rfl ?_
        refine w_get e72_36 e26 rfl ?_
        obtain ⟨s38, hs39, e37⟩ := tc_tri hT
        refine w_cv e72_39 (by decide) rfl e37 rfl (Nat.le_of_ble_eq_true rfl) (Nat.le_of_ble_eq_true rfl) (Nat.le_of_ble_eq_true rfl) (by decide) (by decide) (c42 hT hx2 (rfl : ty 234 = 1)) (fun o40 v41 hq42 => ?_)
        obtain ⟨rfl, q44, h45, rfl⟩ := hq42
        refine w_stI (j := 2) (A1 := [some (.ref 1), some (.int (vz i1)), some (.int (vz q44)), some (.int (vz x3))]) e72_42 (fun _ => rfl) (by decide) rfl ?_
        refine w_ldI e72_43 (fun _ => rfl) rfl ?_
        refine w_kI e72_44 ?_
        refine w_ic e72_45 (by omega) (by omega) (fun (h46 : q44 ≠ -1) => ?_) (fun (h46 : q44 = -1) => ?_)
        ·
          refine w_ldI e72_50 (fun _ => rfl) rfl ?_
          refine w_ldI e72_51 (fun _ => rfl) rfl ?_
          refine w_ic e72_52 (by omega) hi_1 (fun (h47 : x3 = i1) => ?_) (fun (h47 : x3 ≠ i1) => ?_)
          ·
            refine w_kI e72_78 ?_
            exact w_rz e72_79 rfl (by omega) ⟨hT, 0, (by omega), rfl⟩
          ·
            refine w_ldA e72_55 (fun _ => rfl) rfl ?_
            refine w_get e72_56 e26 rfl ?_
            refine w_ldA e72_59 (fun _ => rfl) rfl ?_
            refine w_get e72_60 e26 rfl ?_
            refine w_ldA e72_63 (fun _ => rfl) rfl ?_
            refine w_get e72_64 e26 rfl ?_
            refine w_get e72_67 e37 rfl ?_
            refine w_ldI e72_70 (fun _ => rfl) rfl ?_
            obtain ⟨f49, hf50, e48⟩ := tc_mem hT
            obtain ⟨a51, h52, h53⟩ := hf50 (q44).toNat (by omega)
            refine w_qld e72_71 e48 (by decide) (by omega) (by omega) (by decide) h52 ?_
            obtain ⟨k55, k56, k57, k58, s60, hk59, hs61, e54⟩ := tc_stp hT
            refine w_cv e72_72 (by decide) rfl e54 rfl (Nat.le_of_ble_eq_true rfl) (Nat.le_of_ble_eq_true rfl) (Nat.le_of_ble_eq_true rfl) (by decide) (by decide) (c32 (tc_fz hT) (rfl : ty 234 = 1) (Or.inr (by decide)) h53) (fun o62 v63 hq64 => ?_)
            obtain ⟨hT65, q66, h67, rfl⟩ := hq64
            have hT68 := tc_uf hT hT65
            have e69 := (tc_k1 hT65).trans e26
            refine w_if e72_75 (by omega) (fun (h70 : q66 ≠ 0) => ?_) (fun (h70 : q66 = 0) => ?_)
            ·
              refine w_ldA e72_80 (fun _ => rfl) rfl ?_
              refine w_x e72_81 (fun _ => rfl) ?_
              refine w_get e72_82 e69 rfl ?_
              refine w_kI e72_85 ?_
              refine w_iadd e72_86 ?_
              refine w_put e72_87 e69 (Nat.le_of_ble_eq_true rfl) rfl (fun v73 b71 h72 => ?_)
              have h72 : vm_at v73 1 = some (.inr (5, [.ref 2, .ref 6, .ref 55, .int (vz θ.2.1), .ref 56, .int (vz m27), .ref 217, .ref 219, .ref 224, .ref 227, .ref 230, .ref 233, .ref 234, .ref 237, .int (vz (m28 + 1)), .int (vz θ.2.2.2.1), .int (vz m29), .int (vz m30)])) := h72
              have hT74 := ts_main hz hT68 (by omega) b71 h72
              refine w_ldA e72_90 (fun _ => rfl) rfl ?_
              refine w_get e72_91 h72 rfl ?_
              refine w_ldI e72_94 (fun _ => rfl) rfl ?_
              refine w_x e72_95 (fun _ => rfl) ?_
              obtain ⟨f76, e75⟩ := tc_i8 hT74 (rfl : ty 237 = 15)
              refine w_aldO e72_96 e75 (by omega) (by omega) (by decide) (fun q77 h78 h79 => ?_)
              refine w_kI e72_97 ?_
              refine w_iadd e72_98 ?_
              refine w_ast e72_99 e75 (by omega) (by omega) (by decide) (by decide) (fun v82 b80 h81 => ?_)
              have hT83 := ts_i8 hT74 (rfl : ty 237 = 15) b80 h81
              have e84 := (b80.2 1 (by decide)).trans h72
              refine w_iinc (A1 := [some (.ref 1), some (.int (vz i1)), some (.int (vz q44)), some (.int (vz (x3 + 1)))]) e72_100 rfl (by decide) rfl ?_
              refine w_x e72_103 (fun _ => rfl) ?_
              exact w_sub (A1 := [some (.ref 1), some (.int (vz i1)), some (.int (vz q44)), some (.int (vz (x3 + 1)))]) (And.intro rfl (And.intro rfl (And.intro rfl (And.intro rfl trivial)))) ((ih) v82 q44 (x3 + 1) hT83 (by omega) (by omega) (by omega))
            ·
              refine w_kI e72_78 ?_
              exact w_rz e72_79 rfl (by omega) ⟨hT68, 0, (by omega), rfl⟩
        ·
          refine w_kI e72_48 ?_
          exact w_rz e72_49 rfl (by omega) ⟨hT, 1, (by omega), rfl⟩
set_option maxRecDepth 100000 in
set_option maxHeartbeats 4000000 in
theorem c72 {θ : tc_S} {v0 : (Bool × Bool) × vm_H} {vh : vm_H} (hz : v0.1.1 = false) (hT : tc θ v0 vh) {i1 : Int} (hi_1 : -2147483648 ≤ i1 ∧ i1 < 2147483648) : vm_Rp 3 92 72 [.ref 1, .int (vz i1)] vh (fun r v1 => (tc θ v0 v1) ∧ ∃ q : Int, ((0 ≤ q ∧ q ≤ 1)) ∧ r = some (.int (vz q))) := by
  have hok : (0 ≤ θ.1 ∧ θ.1 ≤ 8) ∧ (0 ≤ θ.2.1 ∧ θ.2.1 ≤ 16) ∧ (-2147483648 ≤ θ.2.2.2.1 ∧ θ.2.2.2.1 < 2147483648) ∧ (0 ≤ θ.2.2.2.2 ∧ θ.2.2.2.2 ≤ 8) := hT.1
  refine w_in (m := 2) ?_
  show vm_Wp _ _ _ 0 [some (.ref 1), some (.int (vz i1)), none, none] [] _ _
  refine w_ldA e72_0 (fun _ => rfl) rfl ?_
  refine w_kI e72_1 ?_
  obtain ⟨m2, m3, m4, m5, hm6, hm7, hm8, hm9, hm10, hm11, e1⟩ := tc_main hT
  refine w_put e72_2 e1 (Nat.le_of_ble_eq_true rfl) rfl (fun v14 b12 h13 => ?_)
  have h13 : vm_at v14 1 = some (.inr (5, [.ref 2, .ref 6, .ref 55, .int (vz θ.2.1), .ref 56, .int (vz m2), .ref 217, .ref 219, .ref 224, .ref 227, .ref 230, .ref 233, .ref 234, .ref 237, .int (vz 0), .int (vz θ.2.2.2.1), .int (vz m4), .int (vz m5)])) := h13
  have hT15 := ts_main hz hT (by omega) b12 h13
  refine w_ldA e72_5 (fun _ => rfl) rfl ?_
  refine w_get e72_6 h13 rfl ?_
  refine w_kI e72_9 ?_
  refine w_cs e72_10 (by decide) (Nat.le_of_ble_eq_true rfl) (Nat.le_of_ble_eq_true rfl) (Nat.le_of_ble_eq_true rfl) (by decide) (by decide) (c123 (tc_fz hT15) (rfl : ty 237 = 15) (by omega)) (fun o16 v17 hq18 => ?_)
  obtain ⟨hT19, rfl⟩ := hq18
  have hT20 := tc_uf hT15 hT19
  have e21 := (tc_k1 hT19).trans h13
  refine w_ldA e72_13 (fun _ => rfl) rfl ?_
  refine w_get e72_14 e21 rfl ?_
  obtain ⟨s23, hs24, e22⟩ := tc_tri hT20
  refine w_get e72_17 e22 rfl ?_
  refine w_kI e72_20 ?_
  refine w_isub e72_21 ?_
  refine w_stI (j := 2) (A1 := [some (.ref 1), some (.int (vz i1)), some (.int (vz (s23 - 1))), none]) e72_22 (fun _ => rfl) (by decide) rfl ?_
  refine w_kI e72_23 ?_
  refine w_stI (j := 3) (A1 := [some (.ref 1), some (.int (vz i1)), some (.int (vz (s23 - 1))), some (.int (vz 0))]) e72_24 (fun _ => rfl) (by decide) rfl ?_
  exact w_sub (A1 := [some (.ref 1), some (.int (vz i1)), some (.int (vz (s23 - 1))), some (.int (vz 0))]) (And.intro rfl (And.intro rfl (And.intro rfl (And.intro rfl trivial)))) (((c72_L (θ := θ) (i1 := i1) (v0 := v0) hz hi_1 _)) v17 (s23 - 1) 0 hT20 (by omega) (by omega) (Nat.lt_succ_self _))
