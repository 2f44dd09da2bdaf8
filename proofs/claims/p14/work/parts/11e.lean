set_option maxRecDepth 100000 in
set_option maxHeartbeats 4000000 in
theorem c42_L {θ : tc_S} {v0 : (Bool × Bool) × vm_H} {vh : vm_H} (hT : tc θ v0 vh) {i1 : Int} (hi_1 : -2147483648 ≤ i1 ∧ i1 < 2147483648) {a2 : Nat} (ha2 : ty a2 = 1) : ∀ N : Nat, (∀ (x3 : Int), (-2147483648 ≤ x3 ∧ x3 < θ.2.2.2.2 ∧ θ.2.2.2.2 ≤ 8) → ((x3 + 1 : Int).toNat < N) → vm_Wp 2 53 42 19 [some (.ref 217), some (.int (vz i1)), some (.ref a2), some (.int (vz x3))] [] vh (vq_P 42 (fun r v1 => vh = v1 ∧ ∃ q : Int, (q = -1 ∨ (0 ≤ q ∧ q < θ.2.2.2.2 ∧ θ.2.2.2.2 ≤ 8)) ∧ r = some (.int (vz q))))) := by
  intro N
  induction N with
  | zero => exact (by intros; omega)
  | succ N ih =>
    ·
      intro x3 hx3 hN
      have hok : (0 ≤ θ.1 ∧ θ.1 ≤ 8) ∧ (0 ≤ θ.2.1 ∧ θ.2.1 ≤ 16) ∧ (-2147483648 ≤ θ.2.2.2.1 ∧ θ.2.2.2.1 < 2147483648) ∧ (0 ≤ θ.2.2.2.2 ∧ θ.2.2.2.2 ≤ 8) := hT.1
      refine w_ldI e42_19 (fun _ => rfl) rfl ?_
      refine w_if e42_20 (by omega) (fun (h9 : x3 < 0) => ?_) (fun (h9 : 0 ≤ x3) => ?_)
      ·
        refine w_kI e42_56 ?_
        exact w_ri e42_57 rfl ⟨rfl, -1, (by omega), rfl⟩
      ·
        refine w_ldA e42_23 (fun _ => rfl) rfl ?_
        refine w_ldA e42_24 (fun _ => rfl) rfl ?_
        obtain ⟨s11, hs12, e10⟩ := tc_tri hT
        refine w_get e42_25 e10 rfl ?_
        refine w_ldI e42_28 (fun _ => rfl) rfl ?_
        obtain ⟨f14, hf15, e13⟩ := tc_mem hT
        obtain ⟨a16, h17, h18⟩ := hf15 (x3).toNat (by omega)
        refine w_qld e42_29 e13 (by decide) (by omega) (by omega) (by decide) h17 ?_
        obtain ⟨p20, d21, hp22, hd23, e19⟩ := tc_row hT h18
        refine w_get e42_30 e19 rfl ?_
        obtain ⟨c25, hc26, e24⟩ := tc_poly hT ha2
        refine w_cv e42_33 (by decide) rfl e24 rfl (Nat.le_of_ble_eq_true rfl) (Nat.le_of_ble_eq_true rfl) (Nat.le_of_ble_eq_true rfl) (by decide) (by decide) (c22 hT ha2 hp22) (fun o27 v28 hq29 => ?_)
        obtain ⟨rfl, q31, h32, rfl⟩ := hq29
        refine w_ldA e42_36 (fun _ => rfl) rfl ?_
        refine w_get e42_37 e10 rfl ?_
        refine w_ldI e42_40 (fun _ => rfl) rfl ?_
        obtain ⟨a33, h34, h35⟩ := hf15 (x3).toNat (by omega)
        refine w_qld e42_41 e13 (by decide) (by omega) (by omega) (by decide) h34 ?_
        obtain ⟨p37, d38, hp39, hd40, e36⟩ := tc_row hT h35
        refine w_get e42_42 e36 rfl ?_
        refine w_ic e42_45 h32 hd40 (fun (h41 : q31 < d38) => ?_) (fun (h41 : d38 ≤ q31) => ?_)
        ·
          refine w_iinc (A1 := [some (.ref 217), some (.int (vz i1)), some (.ref a2), some (.int (vz (x3 + (-1))))]) e42_50 rfl (by decide) rfl ?_
          refine w_x e42_53 (fun _ => rfl) ?_
          exact w_sub (A1 := [some (.ref 217), some (.int (vz i1)), some (.ref a2), some (.int (vz (x3 + (-1))))]) (And.intro rfl (And.intro rfl (And.intro rfl (And.intro rfl trivial)))) ((ih) (x3 + (-1)) (by omega) (by omega))
        ·
          refine w_ldI e42_48 (fun _ => rfl) rfl ?_
          exact w_ri e42_49 rfl ⟨rfl, x3, (by omega), rfl⟩
set_option maxRecDepth 100000 in
set_option maxHeartbeats 4000000 in
theorem c42 {θ : tc_S} {v0 : (Bool × Bool) × vm_H} {vh : vm_H} (hT : tc θ v0 vh) {i1 : Int} (hi_1 : -2147483648 ≤ i1 ∧ i1 < 2147483648) {a2 : Nat} (ha2 : ty a2 = 1) : vm_Rp 2 53 42 [.ref 217, .int (vz i1), .ref a2] vh (fun r v1 => vh = v1 ∧ ∃ q : Int, (q = -1 ∨ (0 ≤ q ∧ q < θ.2.2.2.2 ∧ θ.2.2.2.2 ≤ 8)) ∧ r = some (.int (vz q))) := by
  have hok : (0 ≤ θ.1 ∧ θ.1 ≤ 8) ∧ (0 ≤ θ.2.1 ∧ θ.2.1 ≤ 16) ∧ (-2147483648 ≤ θ.2.2.2.1 ∧ θ.2.2.2.1 < 2147483648) ∧ (0 ≤ θ.2.2.2.2 ∧ θ.2.2.2.2 ≤ 8) := hT.1
  refine w_in (m := 1) ?_
  show vm_Wp _ _ _ 0 [some (.ref 217), some (.int (vz i1)), some (.ref a2), none] [] _ _
  refine w_ldA e42_0 (fun _ => rfl) rfl ?_
  obtain ⟨c2, hc3, e1⟩ := tc_poly hT ha2
  refine w_get e42_1 e1 rfl ?_
  refine w_if e42_4 (by omega) (fun (h4 : c2 = 0) => ?_) (fun (h4 : c2 ≠ 0) => ?_)
  ·
    refine w_kI e42_15 ?_
    exact w_ri e42_16 rfl ⟨rfl, -1, (by omega), rfl⟩
  ·
    refine w_ldI e42_7 (fun _ => rfl) rfl ?_
    refine w_ldA e42_8 (fun _ => rfl) rfl ?_
    obtain ⟨s6, hs7, e5⟩ := tc_tri hT
    refine w_get e42_9 e5 rfl ?_
    refine w_ic e42_12 hi_1 (by omega) (fun (h8 : i1 < s6) => ?_) (fun (h8 : s6 ≤ i1) => ?_)
    ·
      refine w_ldI e42_17 (fun _ => rfl) rfl ?_
      refine w_stI (j := 3) (A1 := [some (.ref 217), some (.int (vz i1)), some (.ref a2), some (.int (vz i1))]) e42_18 (fun _ => rfl) (by decide) rfl ?_
      exact w_sub (A1 := [some (.ref 217), some (.int (vz i1)), some (.ref a2), some (.int (vz i1))]) (And.intro rfl (And.intro rfl (And.intro rfl (And.intro rfl trivial)))) (((c42_L (θ := θ) (i1 := i1) (a2 := a2) (v0 := v0) (vh := vh) hT hi_1 ha2 _)) i1 (by omega) (Nat.lt_succ_self _))
    ·
      refine w_kI e42_15 ?_
      exact w_ri e42_16 rfl ⟨rfl, -1, (by omega), rfl⟩
set_option maxRecDepth 100000 in
set_option maxHeartbeats 4000000 in
theorem c41_L {θ : tc_S} {v0 : (Bool × Bool) × vm_H} {vh : vm_H} (hT : tc θ v0 vh) {a1 : Nat} (ha1 : ty a1 = 3) : ∀ N : Nat, (∀ (x2 : Int), (0 ≤ x2 ∧ x2 ≤ 8) → ((8 - x2 : Int).toNat < N) → vm_Wp 0 0 41 2 [some (.ref 217), some (.ref a1), some (.int (vz x2))] [] vh (vq_P 41 (fun r v1 => vh = v1 ∧ ∃ q : Int, ((0 ≤ q ∧ q ≤ 1)) ∧ r = some (.int (vz q))))) := by
  intro N
  induction N with
  | zero => exact (by intros; omega)
  | succ N ih =>
    ·
      intro x2 hx2 hN
      have hok : (0 ≤ θ.1 ∧ θ.1 ≤ 8) ∧ (0 ≤ θ.2.1 ∧ θ.2.1 ≤ 16) ∧ (-2147483648 ≤ θ.2.2.2.1 ∧ θ.2.2.2.1 < 2147483648) ∧ (0 ≤ θ.2.2.2.2 ∧ θ.2.2.2.2 ≤ 8) := hT.1
      refine w_ldI e41_2 (fun _ => rfl) rfl ?_
      refine w_ldA e41_3 (fun _ => rfl) rfl ?_
      obtain ⟨s2, hs3, e1⟩ := tc_tri hT
      refine w_get e41_4 e1 rfl ?_
      refine w_ic e41_7 (by omega) (by omega) (fun (h4 : s2 ≤ x2) => ?_) (fun (h4 : x2 < s2) => ?_)
      ·
        refine w_kI e41_28 ?_
        exact w_rz e41_29 rfl (by omega) ⟨rfl, 0, (by omega), rfl⟩
      ·
        refine w_ldA e41_10 (fun _ => rfl) rfl ?_
        refine w_get e41_11 e1 rfl ?_
        refine w_ldI e41_14 (fun _ => rfl) rfl ?_
        obtain ⟨f6, hf7, e5⟩ := tc_mem hT
        obtain ⟨a8, h9, h10⟩ := hf7 (x2).toNat (by omega)
        refine w_qld e41_15 e5 (by decide) (by omega) (by omega) (by decide) h9 ?_
        refine w_ldA e41_16 (fun _ => rfl) rfl ?_
        refine w_acn e41_17 (fun h11 => ?_) (fun h11 => ?_)
        ·
          refine w_iinc (A1 := [some (.ref 217), some (.ref a1), some (.int (vz (x2 + 1)))]) e41_22 rfl (by decide) rfl ?_
          refine w_x e41_25 (fun _ => rfl) ?_
          exact w_sub (A1 := [some (.ref 217), some (.ref a1), some (.int (vz (x2 + 1)))]) (And.intro rfl (And.intro rfl (And.intro rfl trivial))) ((ih) (x2 + 1) (by omega) (by omega))
        ·
          refine w_kI e41_20 ?_
          exact w_rz e41_21 rfl (by omega) ⟨rfl, 1, (by omega), rfl⟩
set_option maxRecDepth 100000 in
set_option maxHeartbeats 4000000 in
theorem c41 {θ : tc_S} {v0 : (Bool × Bool) × vm_H} {vh : vm_H} (hT : tc θ v0 vh) {a1 : Nat} (ha1 : ty a1 = 3) : vm_Rp 0 0 41 [.ref 217, .ref a1] vh (fun r v1 => vh = v1 ∧ ∃ q : Int, ((0 ≤ q ∧ q ≤ 1)) ∧ r = some (.int (vz q))) := by
  have hok : (0 ≤ θ.1 ∧ θ.1 ≤ 8) ∧ (0 ≤ θ.2.1 ∧ θ.2.1 ≤ 16) ∧ (-2147483648 ≤ θ.2.2.2.1 ∧ θ.2.2.2.1 < 2147483648) ∧ (0 ≤ θ.2.2.2.2 ∧ θ.2.2.2.2 ≤ 8) := hT.1
  refine w_in (m := 1) ?_
  show vm_Wp _ _ _ 0 [some (.ref 217), some (.ref a1), none] [] _ _
  refine w_kI e41_0 ?_
  refine w_stI (j := 2) (A1 := [some (.ref 217), some (.ref a1), some (.int (vz 0))]) e41_1 (fun _ => rfl) (by decide) rfl ?_
  exact w_sub (A1 := [some (.ref 217), some (.ref a1), some (.int (vz 0))]) (And.intro rfl (And.intro rfl (And.intro rfl trivial))) (((c41_L (θ := θ) (a1 := a1) (v0 := v0) (vh := vh) hT ha1 _)) 0 (by omega) (Nat.lt_succ_self _))
set_option maxRecDepth 100000 in
set_option maxHeartbeats 4000000 in
theorem c40_L {θ : tc_S} {v0 : (Bool × Bool) × vm_H} {vh : vm_H} (hT : tc θ v0 vh) {a1 : Nat} (ha1 : ty a1 = 3) : ∀ N : Nat, (∀ (x2 : Int), (0 ≤ x2 ∧ x2 ≤ 8) → ((8 - x2 : Int).toNat < N) → vm_Wp 2 53 40 32 [some (.ref 217), some (.ref a1), some (.int (vz x2))] [] vh (vq_P 40 (fun r v1 => vh = v1 ∧ ∃ q : Int, ((0 ≤ q ∧ q ≤ 1)) ∧ r = some (.int (vz q))))) := by
  intro N
  induction N with
  | zero => exact (by intros; omega)
  | succ N ih =>
    ·
      intro x2 hx2 hN
      have hok : (0 ≤ θ.1 ∧ θ.1 ≤ 8) ∧ (0 ≤ θ.2.1 ∧ θ.2.1 ≤ 16) ∧ (-2147483648 ≤ θ.2.2.2.1 ∧ θ.2.2.2.1 < 2147483648) ∧ (0 ≤ θ.2.2.2.2 ∧ θ.2.2.2.2 ≤ 8) := hT.1
      refine w_ldI e40_32 (fun _ => rfl) rfl ?_
      refine w_ldA e40_33 (fun _ => rfl) rfl ?_
      obtain ⟨s23, hs24, e22⟩ := tc_tri hT
      refine w_get e40_34 e22 rfl ?_
      refine w_ic e40_37 (by omega) (by omega) (fun (h25 : s23 ≤ x2) => ?_) (fun (h25 : x2 < s23) => ?_)
      ·
        refine w_kI e40_76 ?_
        exact w_rz e40_77 rfl (by omega) ⟨rfl, 1, (by omega), rfl⟩
      ·
        refine w_ldA e40_40 (fun _ => rfl) rfl ?_
        obtain ⟨p27, d28, hp29, hd30, e26⟩ := tc_row hT ha1
        refine w_get e40_41 e26 rfl ?_
        refine w_ldA e40_44 (fun _ => rfl) rfl ?_
        refine w_get e40_45 e22 rfl ?_
        refine w_ldI e40_48 (fun _ => rfl) rfl ?_
        obtain ⟨f32, hf33, e31⟩ := tc_mem hT
        obtain ⟨a34, h35, h36⟩ := hf33 (x2).toNat (by omega)
        refine w_qld e40_49 e31 (by decide) (by omega) (by omega) (by decide) h35 ?_
        obtain ⟨p38, d39, hp40, hd41, e37⟩ := tc_row hT h36
        refine w_get e40_50 e37 rfl ?_
        obtain ⟨c43, hc44, e42⟩ := tc_poly hT (ty_r ha1)
        refine w_cv e40_53 (by decide) rfl e42 rfl (Nat.le_of_ble_eq_true rfl) (Nat.le_of_ble_eq_true rfl) (Nat.le_of_ble_eq_true rfl) (by decide) (by decide) (c22 hT (ty_r ha1) hp40) (fun o45 v46 hq47 => ?_)
        obtain ⟨rfl, q49, h50, rfl⟩ := hq47
        refine w_ldA e40_56 (fun _ => rfl) rfl ?_
        refine w_get e40_57 e22 rfl ?_
        refine w_ldI e40_60 (fun _ => rfl) rfl ?_
        obtain ⟨a51, h52, h53⟩ := hf33 (x2).toNat (by omega)
        refine w_qld e40_61 e31 (by decide) (by omega) (by omega) (by decide) h52 ?_
        obtain ⟨p55, d56, hp57, hd58, e54⟩ := tc_row hT h53
        refine w_get e40_62 e54 rfl ?_
        refine w_ic e40_65 h50 hd58 (fun (h59 : q49 < d56) => ?_) (fun (h59 : d56 ≤ q49) => ?_)
        ·
          refine w_iinc (A1 := [some (.ref 217), some (.ref a1), some (.int (vz (x2 + 1)))]) e40_70 rfl (by decide) rfl ?_
          refine w_x e40_73 (fun _ => rfl) ?_
          exact w_sub (A1 := [some (.ref 217), some (.ref a1), some (.int (vz (x2 + 1)))]) (And.intro rfl (And.intro rfl (And.intro rfl trivial))) ((ih) (x2 + 1) (by omega) (by omega))
        ·
          refine w_kI e40_68 ?_
          exact w_rz e40_69 rfl (by omega) ⟨rfl, 0, (by omega), rfl⟩
set_option maxRecDepth 100000 in
set_option maxHeartbeats 4000000 in
theorem c40 {θ : tc_S} {v0 : (Bool × Bool) × vm_H} {vh : vm_H} (hT : tc θ v0 vh) {a1 : Nat} (ha1 : ty a1 = 3) : vm_Rp 2 53 40 [.ref 217, .ref a1] vh (fun r v1 => vh = v1 ∧ ∃ q : Int, ((0 ≤ q ∧ q ≤ 1)) ∧ r = some (.int (vz q))) := by
  have hok : (0 ≤ θ.1 ∧ θ.1 ≤ 8) ∧ (0 ≤ θ.2.1 ∧ θ.2.1 ≤ 16) ∧ (-2147483648 ≤ θ.2.2.2.1 ∧ θ.2.2.2.1 < 2147483648) ∧ (0 ≤ θ.2.2.2.2 ∧ θ.2.2.2.2 ≤ 8) := hT.1
  refine w_in (m := 1) ?_
  show vm_Wp _ _ _ 0 [some (.ref 217), some (.ref a1), none] [] _ _
  refine w_ldA e40_0 (fun _ => rfl) rfl ?_
  obtain ⟨s2, hs3, e1⟩ := tc_tri hT
  refine w_get e40_1 e1 rfl ?_
  refine w_if e40_4 (by omega) (fun (h4 : s2 ≤ 0) => ?_) (fun (h4 : 0 < s2) => ?_)
  ·
    refine w_kI e40_30 ?_
    refine w_stI (j := 2) (A1 := [some (.ref 217), some (.ref a1), some (.int (vz 0))]) e40_31 (fun _ => rfl) (by decide) rfl ?_
    exact w_sub (A1 := [some (.ref 217), some (.ref a1), some (.int (vz 0))]) (And.intro rfl (And.intro rfl (And.intro rfl trivial))) (((c40_L (θ := θ) (a1 := a1) (v0 := v0) (vh := vh) hT ha1 _)) 0 (by omega) (Nat.lt_succ_self _))
  ·
    refine w_ldA e40_7 (fun _ => rfl) rfl ?_
    obtain ⟨p6, d7, hp8, hd9, e5⟩ := tc_row hT ha1
    refine w_get e40_8 e5 rfl ?_
    refine w_ldA e40_11 (fun _ => rfl) rfl ?_
    refine w_get e40_12 e1 rfl ?_
    refine w_ldA e40_15 (fun _ => rfl) rfl ?_
    refine w_get e40_16 e1 rfl ?_
    refine w_kI e40_19 ?_
    refine w_isub e40_20 ?_
    obtain ⟨f11, hf12, e10⟩ := tc_mem hT
    obtain ⟨a13, h14, h15⟩ := hf12 (s2 - 1).toNat (by omega)
    refine w_qld e40_21 e10 (by decide) (by omega) (by omega) (by decide) h14 ?_
    obtain ⟨p17, d18, hp19, hd20, e16⟩ := tc_row hT h15
    refine w_get e40_22 e16 rfl ?_
    refine w_ic e40_25 hp8 hp19 (fun (h21 : p17 < p6) => ?_) (fun (h21 : p6 ≤ p17) => ?_)
    ·
      refine w_kI e40_30 ?_
      refine w_stI (j := 2) (A1 := [some (.ref 217), some (.ref a1), some (.int (vz 0))]) e40_31 (fun _ => rfl) (by decide) rfl ?_
      exact w_sub (A1 := [some (.ref 217), some (.ref a1), some (.int (vz 0))]) (And.intro rfl (And.intro rfl (And.intro rfl trivial))) (((c40_L (θ := θ) (a1 := a1) (v0 := v0) (vh := vh) hT ha1 _)) 0 (by omega) (Nat.lt_succ_self _))
    ·
      refine w_kI e40_28 ?_
      exact w_rz e40_29 rfl (by omega) ⟨rfl, 0, (by omega), rfl⟩
set_option maxRecDepth 100000 in
set_option maxHeartbeats 4000000 in
theorem c39_L {θ : tc_S} {v0 : (Bool × Bool) × vm_H} {vh : vm_H} (hT : tc θ v0 vh) {i2 : Int} (hi_2 : 0 ≤ i2 ∧ i2 ≤ 40) : ∀ N : Nat, (∀ (x4 : Int), (0 ≤ x4 ∧ x4 ≤ 40) → ((40 - x4 : Int).toNat < N) → vm_Wp 3 75 39 5 [some (.ref 217), some (.ref 56), some (.int (vz i2)), some (.null), some (.int (vz x4))] [] vh (vq_P 39 (fun r v1 => vh = v1 ∧ (r = some .null ∨ ∃ a, ty a = 3 ∧ r = some (.ref a))))) ∧ (∀ (z3 : Nat) (x4 : Int), (ty z3 = 3) → (0 ≤ x4 ∧ x4 ≤ 40) → ((40 - x4 : Int).toNat < N) → vm_Wp 3 75 39 5 [some (.ref 217), some (.ref 56), some (.int (vz i2)), some (.ref z3), some (.int (vz x4))] [] vh (vq_P 39 (fun r v1 => vh = v1 ∧ (r = some .null ∨ ∃ a, ty a = 3 ∧ r = some (.ref a))))) := by
  intro N
  induction N with
  | zero => exact ⟨by intros; omega, by intros; omega⟩
  | succ N ih =>
    refine ⟨?_, ?_⟩
    ·
      intro x4 hx4 hN
      have hok : (0 ≤ θ.1 ∧ θ.1 ≤ 8) ∧ (0 ≤ θ.2.1 ∧ θ.2.1 ≤ 16) ∧ (-2147483648 ≤ θ.2.2.2.1 ∧ θ.2.2.2.1 < 2147483648) ∧ (0 ≤ θ.2.2.2.2 ∧ θ.2.2.2.2 ≤ 8) := hT.1
      refine w_ldI e39_5 (fun _ => rfl) rfl ?_
      refine w_ldI e39_7 (fun _ => rfl) rfl ?_
      refine w_ic e39_8 (by omega) (by omega) (fun (h1 : i2 ≤ x4) => ?_) (fun (h1 : x4 < i2) => ?_)
      ·
        refine w_ldN e39_48 (fun _ => rfl) rfl ?_
        exact w_rn e39_49 rfl ⟨rfl, Or.inl rfl⟩
      ·
        refine w_ldA e39_11 (fun _ => rfl) rfl ?_
        refine w_ldA e39_12 (fun _ => rfl) rfl ?_
        refine w_ldI e39_13 (fun _ => rfl) rfl ?_
        obtain ⟨f3, hf4, e2⟩ := tc_rows hT
        obtain ⟨a5, h6, h7⟩ : ∃ b, f3 (x4).toNat = some b ∧ ty b = 3 := ⟨_, hf4 _ (by omega), ty_ri _ (by omega)⟩
        refine w_qld e39_15 e2 (by decide) (by omega) (by omega) (by decide) h6 ?_
        obtain ⟨s9, hs10, e8⟩ := tc_tri hT
        refine w_cv e39_16 (by decide) rfl e8 rfl (Nat.le_of_ble_eq_true rfl) (Nat.le_of_ble_eq_true rfl) (Nat.le_of_ble_eq_true rfl) (by decide) (by decide) (c40 hT h7) (fun o11 v12 hq13 => ?_)
        obtain ⟨rfl, q15, h16, rfl⟩ := hq13
        refine w_if e39_19 (by omega) (fun (h17 : q15 = 0) => ?_) (fun (h17 : q15 ≠ 0) => ?_)
        ·
          refine w_iinc (A1 := [some (.ref 217), some (.ref 56), some (.int (vz i2)), some (.null), some (.int (vz (x4 + 1)))]) e39_42 rfl (by decide) rfl ?_
          refine w_x e39_45 (fun _ => rfl) ?_
          exact w_sub (A1 := [some (.ref 217), some (.ref 56), some (.int (vz i2)), some (.null), some (.int (vz (x4 + 1)))]) (And.intro rfl (And.intro rfl (And.intro rfl (And.intro rfl (And.intro rfl trivial))))) ((ih.1) (x4 + 1) (by omega) (by omega))
        ·
          refine w_ldN e39_22 (fun _ => rfl) rfl ?_
          refine w_x e39_23 (fun _ => rfl) ?_
          refine w_ldA e39_37 (fun _ => rfl) rfl ?_
          refine w_ldI e39_38 (fun _ => rfl) rfl ?_
          obtain ⟨a18, h19, h20⟩ : ∃ b, f3 (x4).toNat = some b ∧ ty b = 3 := ⟨_, hf4 _ (by omega), ty_ri _ (by omega)⟩
          refine w_qld e39_40 e2 (by decide) (by omega) (by omega) (by decide) h19 ?_
          refine w_stA (j := 3) (A1 := [some (.ref 217), some (.ref 56), some (.int (vz i2)), some (.ref a18), some (.int (vz x4))]) e39_41 (fun _ => rfl) (by decide) rfl ?_
          refine w_iinc (A1 := [some (.ref 217), some (.ref 56), some (.int (vz i2)), some (.ref a18), some (.int (vz (x4 + 1)))]) e39_42 rfl (by decide) rfl ?_
          refine w_x e39_45 (fun _ => rfl) ?_
          exact w_sub (A1 := [some (.ref 217), some (.ref 56), some (.int (vz i2)), some (.ref a18), some (.int (vz (x4 + 1)))]) (And.intro rfl (And.intro rfl (And.intro rfl (And.intro rfl (And.intro rfl trivial))))) ((ih.2) a18 (x4 + 1) h20 (by omega) (by omega))
    ·
      intro z3 x4 hz3 hx4 hN
      have hok : (0 ≤ θ.1 ∧ θ.1 ≤ 8) ∧ (0 ≤ θ.2.1 ∧ θ.2.1 ≤ 16) ∧ (-2147483648 ≤ θ.2.2.2.1 ∧ θ.2.2.2.1 < 2147483648) ∧ (0 ≤ θ.2.2.2.2 ∧ θ.2.2.2.2 ≤ 8) := hT.1
      refine w_ldI e39_5 (fun _ => rfl) rfl ?_
      refine w_ldI e39_7 (fun _ => rfl) rfl ?_
      refine w_ic e39_8 (by omega) (by omega) (fun (h21 : i2 ≤ x4) => ?_) (fun (h21 : x4 < i2) => ?_)
      ·
        refine w_ldA e39_48 (fun _ => rfl) rfl ?_
        exact w_ra e39_49 rfl ⟨rfl, Or.inr ⟨_, hz3, rfl⟩⟩
      ·
        refine w_ldA e39_11 (fun _ => rfl) rfl ?_
        refine w_ldA e39_12 (fun _ => rfl) rfl ?_
        refine w_ldI e39_13 (fun _ => rfl) rfl ?_
        obtain ⟨f23, hf24, e22⟩ := tc_rows hT
        obtain ⟨a25, h26, h27⟩ : ∃ b, f23 (x4).toNat = some b ∧ ty b = 3 := ⟨_, hf24 _ (by omega), ty_ri _ (by omega)⟩
        refine w_qld e39_15 e22 (by decide) (by omega) (by omega) (by decide) h26 ?_
        obtain ⟨s29, hs30, e28⟩ := tc_tri hT
        refine w_cv e39_16 (by decide) rfl e28 rfl (Nat.le_of_ble_eq_true rfl) (Nat.le_of_ble_eq_true rfl) (Nat.le_of_ble_eq_true rfl) (by decide) (by decide) (c40 hT h27) (fun o31 v32 hq33 => ?_)
        obtain ⟨rfl, q35, h36, rfl⟩ := hq33
        refine w_if e39_19 (by omega) (fun (h37 : q35 = 0) => ?_) (fun (h37 : q35 ≠ 0) => ?_)
        ·
          refine w_iinc (A1 := [some (.ref 217), some (.ref 56), some (.int (vz i2)), some (.ref z3), some (.int (vz (x4 + 1)))]) e39_42 rfl (by decide) rfl ?_
          refine w_x e39_45 (fun _ => rfl) ?_
          exact w_sub (A1 := [some (.ref 217), some (.ref 56), some (.int (vz i2)), some (.ref z3), some (.int (vz (x4 + 1)))]) (And.intro rfl (And.intro rfl (And.intro rfl (And.intro rfl (And.intro rfl trivial))))) ((ih.2) z3 (x4 + 1) hz3 (by omega) (by omega))
        ·
          refine w_ldA e39_22 (fun _ => rfl) rfl ?_
          refine w_x e39_23 (fun _ => rfl) ?_
          refine w_ldA e39_26 (fun _ => rfl) rfl ?_
          refine w_ldI e39_27 (fun _ => rfl) rfl ?_
          obtain ⟨a38, h39, h40⟩ : ∃ b, f23 (x4).toNat = some b ∧ ty b = 3 := ⟨_, hf24 _ (by omega), ty_ri _ (by omega)⟩
          refine w_qld e39_29 e22 (by decide) (by omega) (by omega) (by decide) h39 ?_
          refine w_ldA e39_30 (fun _ => rfl) rfl ?_
          obtain ⟨p42, d43, hp44, hd45, e41⟩ := tc_row hT h40
          refine w_cv e39_31 (by decide) rfl e41 rfl (Nat.le_of_ble_eq_true rfl) (Nat.le_of_ble_eq_true rfl) (Nat.le_of_ble_eq_true rfl) (by decide) (by decide) (c30 hT h40 hz3) (fun o46 v47 hq48 => ?_)
          obtain ⟨rfl, q50, h51, rfl⟩ := hq48
          refine w_if e39_34 (by omega) (fun (h52 : q50 = 0) => ?_) (fun (h52 : q50 ≠ 0) => ?_)
          ·
            refine w_iinc (A1 := [some (.ref 217), some (.ref 56), some (.int (vz i2)), some (.ref z3), some (.int (vz (x4 + 1)))]) e39_42 rfl (by decide) rfl ?_
            refine w_x e39_45 (fun _ => rfl) ?_
            exact w_sub (A1 := [some (.ref 217), some (.ref 56), some (.int (vz i2)), some (.ref z3), some (.int (vz (x4 + 1)))]) (And.intro rfl (And.intro rfl (And.intro rfl (And.intro rfl (And.intro rfl trivial))))) ((ih.2) z3 (x4 + 1) hz3 (by omega) (by omega))
          ·
            refine w_ldA e39_37 (fun _ => rfl) rfl ?_
            refine w_ldI e39_38 (fun _ => rfl) rfl ?_
            obtain ⟨a53, h54, h55⟩ : ∃ b, f23 (x4).toNat = some b ∧ ty b = 3 := ⟨_, hf24 _ (by omega), ty_ri _ (by omega)⟩
            refine w_qld e39_40 e22 (by decide) (by omega) (by omega) (by decide) h54 ?_
            refine w_stA (j := 3) (A1 := [some (.ref 217), some (.ref 56), some (.int (vz i2)), some (.ref a53), some (.int (vz x4))]) e39_41 (fun _ => rfl) (by decide) rfl ?_
            refine w_iinc (A1 := [some (.ref 217), some (.ref 56), some (.int (vz i2)), some (.ref a53), some (.int (vz (x4 + 1)))]) e39_42 rfl (by decide) rfl ?_
            refine w_x e39_45 (fun _ => rfl) ?_
            exact w_sub (A1 := [some (.ref 217), some (.ref 56), some (.int (vz i2)), some (.ref a53), some (.int (vz (x4 + 1)))]) (And.intro rfl (And.intro rfl (And.intro rfl (And.intro rfl (And.intro rfl trivial))))) ((ih.2) a53 (x4 + 1) h55 (by omega) (by omega))
set_option maxRecDepth 100000 in
set_option maxHeartbeats 4000000 in
theorem c39 {θ : tc_S} {v0 : (Bool × Bool) × vm_H} {vh : vm_H} (hT : tc θ v0 vh) {i2 : Int} (hi_2 : 0 ≤ i2 ∧ i2 ≤ 40) : vm_Rp 3 75 39 [.ref 217, .ref 56, .int (vz i2)] vh (fun r v1 => vh = v1 ∧ (r = some .null ∨ ∃ a, ty a = 3 ∧ r = some (.ref a))) := by
  have hok : (0 ≤ θ.1 ∧ θ.1 ≤ 8) ∧ (0 ≤ θ.2.1 ∧ θ.2.1 ≤ 16) ∧ (-2147483648 ≤ θ.2.2.2.1 ∧ θ.2.2.2.1 < 2147483648) ∧ (0 ≤ θ.2.2.2.2 ∧ θ.2.2.2.2 ≤ 8) := hT.1
  refine w_in (m := 2) ?_
  show vm_Wp _ _ _ 0 [some (.ref 217), some (.ref 56), some (.int (vz i2)), none, none] [] _ _
  refine w_x e39_0 (fun _ => rfl) ?_
  refine w_stN (j := 3) (A1 := [some (.ref 217), some (.ref 56), some (.int (vz i2)), some (.null), none]) e39_1 (fun _ => rfl) (by decide) rfl ?_
  refine w_kI e39_2 ?_
  refine w_stI (j := 4) (A1 := [some (.ref 217), some (.ref 56), some (.int (vz i2)), some (.null), some (.int (vz 0))]) e39_3 (fun _ => rfl) (by decide) rfl ?_
  exact w_sub (A1 := [some (.ref 217), some (.ref 56), some (.int (vz i2)), some (.null), some (.int (vz 0))]) (And.intro rfl (And.intro rfl (And.intro rfl (And.intro rfl (And.intro rfl trivial))))) (((c39_L (θ := θ) (i2 := i2) (v0 := v0) (vh := vh) hT hi_2 _).1) 0 (by omega) (Nat.lt_succ_self _))
set_option maxRecDepth 100000 in
set_option maxHeartbeats 4000000 in
theorem c123_L {θ : tc_S} {v0 : (Bool × Bool) × vm_H} {a0 : Nat} (ha0 : ty a0 = 15) {i1 : Int} (hi_1 : -2147483648 ≤ i1 ∧ i1 < 2147483648) : ∀ N : Nat, (∀ (vh : vm_H) (x2 : Int) (x3 : Int), (tc θ v0 vh) → (0 ≤ x2 ∧ x2 ≤ 8) → (x3 = 8) → ((8 - x2 : Int).toNat < N) → vm_Wp 0 0 123 5 [some (.ref a0), some (.int (vz i1)), some (.int (vz x2)), some (.int (vz x3))] [] vh (vq_P 123 (fun r v1 => (tc θ v0 v1) ∧ r = none))) := by
  intro N
  induction N with
  | zero => exact (by intros; omega)
  | succ N ih =>
    ·
      intro vh x2 x3 hT hx2 hx3 hN
      have hok : (0 ≤ θ.1 ∧ θ.1 ≤ 8) ∧ (0 ≤ θ.2.1 ∧ θ.2.1 ≤ 16) ∧ (-2147483648 ≤ θ.2.2.2.1 ∧ θ.2.2.2.1 < 2147483648) ∧ (0 ≤ θ.2.2.2.2 ∧ θ.2.2.2.2 ≤ 8) := hT.1
      refine w_ldI e123_5 (fun _ => rfl) rfl ?_
      refine w_ldI e123_6 (fun _ => rfl) rfl ?_
      refine w_ic e123_7 (by omega) (by omega) (fun (h3 : x3 ≤ x2) => ?_) (fun (h3 : x2 < x3) => ?_)
      ·
        exact w_rv e123_20 rfl ⟨hT, rfl⟩
      ·
        refine w_ldA e123_10 (fun _ => rfl) rfl ?_
        refine w_ldI e123_11 (fun _ => rfl) rfl ?_
        refine w_ldI e123_12 (fun _ => rfl) rfl ?_
        obtain ⟨f5, e4⟩ := tc_i8 hT ha0
        refine w_ast e123_13 e4 (by omega) (by omega) (by decide) (ty_ne ha0 (rfl : ty 0 = 0) (by decide)) (fun v8 b6 h7 => ?_)
        have hT9 := ts_i8 hT ha0 b6 h7
        refine w_iinc (A1 := [some (.ref a0), some (.int (vz i1)), some (.int (vz (x2 + 1))), some (.int (vz x3))]) e123_14 rfl (by decide) rfl ?_
        refine w_x e123_17 (fun _ => rfl) ?_
        exact w_sub (A1 := [some (.ref a0), some (.int (vz i1)), some (.int (vz (x2 + 1))), some (.int (vz x3))]) (And.intro rfl (And.intro rfl (And.intro rfl (And.intro rfl trivial)))) ((ih) v8 (x2 + 1) x3 hT9 (by omega) (by omega) (by omega))
set_option maxRecDepth 100000 in
set_option maxHeartbeats 4000000 in
theorem c123 {θ : tc_S} {v0 : (Bool × Bool) × vm_H} {vh : vm_H} (hT : tc θ v0 vh) {a0 : Nat} (ha0 : ty a0 = 15) {i1 : Int} (hi_1 : -2147483648 ≤ i1 ∧ i1 < 2147483648) : vm_Rp 0 0 123 [.ref a0, .int (vz i1)] vh (fun r v1 => (tc θ v0 v1) ∧ r = none) := by
  have hok : (0 ≤ θ.1 ∧ θ.1 ≤ 8) ∧ (0 ≤ θ.2.1 ∧ θ.2.1 ≤ 16) ∧ (-2147483648 ≤ θ.2.2.2.1 ∧ θ.2.2.2.1 < 2147483648) ∧ (0 ≤ θ.2.2.2.2 ∧ θ.2.2.2.2 ≤ 8) := hT.1
  refine w_in (m := 2) ?_
  show vm_Wp _ _ _ 0 [some (.ref a0), some (.int (vz i1)), none, none] [] _ _
  refine w_kI e123_0 ?_
  refine w_stI (j := 2) (A1 := [some (.ref a0), some (.int (vz i1)), some (.int (vz 0)), none]) e123_1 (fun _ => rfl) (by decide) rfl ?_
  refine w_ldA e123_2 (fun _ => rfl) rfl ?_
  obtain ⟨f2, e1⟩ := tc_i8 hT ha0
  refine w_len e123_3 e1 (by decide) ?_
  refine w_stI (j := 3) (A1 := [some (.ref a0), some (.int (vz i1)), some (.int (vz 0)), some (.int (vz 8))]) e123_4 (fun _ => rfl) (by decide) rfl ?_
  exact w_sub (A1 := [some (.ref a0), some (.int (vz i1)), some (.int (vz 0)), some (.int (vz 8))]) (And.intro rfl (And.intro rfl (And.intro rfl (And.intro rfl trivial)))) (((c123_L (θ := θ) (a0 := a0) (i1 := i1) (v0 := v0) ha0 hi_1 _)) vh 0 8 hT (by omega) (by omega) (Nat.lt_succ_self _))
