set_option maxRecDepth 100000 in
set_option maxHeartbeats 4000000 in
theorem c73 {θ : tc_S} {v0 : (Bool × Bool) × vm_H} {vh : vm_H} (hT : tc θ v0 vh) {l_0 : Int64} {i1 : Int} (hi_1 : -2147483648 ≤ i1 ∧ i1 < 2147483648) : vm_Rp 0 0 73 [.long l_0, .int (vz i1)] vh (fun r v1 => vh = v1 ∧ ∃ q : Int, (-2147483648 ≤ q ∧ q < 2147483648) ∧ r = some (.int (vz q))) := by
  have hok : (0 ≤ θ.1 ∧ θ.1 ≤ 8) ∧ (0 ≤ θ.2.1 ∧ θ.2.1 ≤ 16) ∧ (-2147483648 ≤ θ.2.2.2.1 ∧ θ.2.2.2.1 < 2147483648) ∧ (0 ≤ θ.2.2.2.2 ∧ θ.2.2.2.2 ≤ 8) := hT.1
  refine w_in (m := 0) ?_
  show vm_Wp _ _ _ 0 [some (.long l_0), none, some (.int (vz i1))] [] _ _
  refine w_ldL e73_0 (fun _ => rfl) rfl ?_
  refine w_kB e73_1 rfl ?_
  refine w_ldI e73_3 (fun _ => rfl) rfl ?_
  refine w_imul e73_4 ?_
  refine w_oL e73_5 (fun _ => rfl) (fun l1 => ?_)
  refine w_oI e73_6 (fun _ => rfl) (fun q2 h3 => ?_)
  refine w_kS e73_7 rfl ?_
  refine w_iand e73_10 h3 (by omega) (fun q4 (h5 : 0 ≤ q4 ∧ q4 ≤ 255) => ?_)
  exact w_ri e73_11 rfl ⟨rfl, q4, (by omega), rfl⟩
set_option maxRecDepth 100000 in
set_option maxHeartbeats 4000000 in
theorem c74 {θ : tc_S} {v0 : (Bool × Bool) × vm_H} {vh : vm_H} (hT : tc θ v0 vh) {l_0 : Int64} : vm_Rp 0 0 74 [.long l_0] vh (fun r v1 => vh = v1 ∧ ∃ q : Int, ((0 ≤ q ∧ q ≤ 1)) ∧ r = some (.int (vz q))) := by
  have hok : (0 ≤ θ.1 ∧ θ.1 ≤ 8) ∧ (0 ≤ θ.2.1 ∧ θ.2.1 ≤ 16) ∧ (-2147483648 ≤ θ.2.2.2.1 ∧ θ.2.2.2.1 < 2147483648) ∧ (0 ≤ θ.2.2.2.2 ∧ θ.2.2.2.2 ≤ 8) := hT.1
  refine w_in (m := 0) ?_
  show vm_Wp _ _ _ 0 [some (.long l_0), none] [] _ _
  refine w_ldL e74_0 (fun _ => rfl) rfl ?_
  refine w_oL e74_1 (fun _ => rfl) (fun l1 => ?_)
  refine w_lcmp e74_4 (fun q2 (h3 : -1 ≤ q2 ∧ q2 ≤ 1) h4 h5 => ?_)
  refine w_if e74_5 (by omega) (fun (h6 : q2 < 0) => ?_) (fun (h6 : 0 ≤ q2) => ?_)
  ·
    refine w_kI e74_20 ?_
    exact w_rz e74_21 rfl (by omega) ⟨rfl, 0, (by omega), rfl⟩
  ·
    refine w_ldL e74_8 (fun _ => rfl) rfl ?_
    refine w_oL e74_9 (fun _ => rfl) (fun l7 => ?_)
    refine w_lcmp e74_12 (fun q8 (h9 : -1 ≤ q8 ∧ q8 ≤ 1) h10 h11 => ?_)
    refine w_if e74_13 (by omega) (fun (h12 : 0 < q8) => ?_) (fun (h12 : q8 ≤ 0) => ?_)
    ·
      refine w_kI e74_20 ?_
      exact w_rz e74_21 rfl (by omega) ⟨rfl, 0, (by omega), rfl⟩
    ·
      refine w_kI e74_16 ?_
      refine w_x e74_17 (fun _ => rfl) ?_
      exact w_rz e74_21 rfl (by omega) ⟨rfl, 1, (by omega), rfl⟩
set_option maxRecDepth 100000 in
set_option maxHeartbeats 4000000 in
theorem c75_L {θ : tc_S} {v0 : (Bool × Bool) × vm_H} {vh : vm_H} (hT : tc θ v0 vh) {l_0 : Int64} {l_1 : Int64} : ∀ N : Nat, (∀ (y4 : Int64) (y6 : Int64) (x8 : Int), (0 ≤ x8 ∧ x8 ≤ 128) → ((128 - x8 : Int).toNat < N) → vm_Wp 0 0 75 9 [some (.long l_0), none, some (.long l_1), none, some (.long y4), none, some (.long y6), none, some (.int (vz x8)), none, none] [] vh (vq_P 75 (fun r v1 => vh = v1 ∧ ∃ q : Int64, r = some (.long q)))) := by
  intro N
  induction N with
  | zero => exact (by intros; omega)
  | succ N ih =>
    ·
      intro y4 y6 x8 hx8 hN
      have hok : (0 ≤ θ.1 ∧ θ.1 ≤ 8) ∧ (0 ≤ θ.2.1 ∧ θ.2.1 ≤ 16) ∧ (-2147483648 ≤ θ.2.2.2.1 ∧ θ.2.2.2.1 < 2147483648) ∧ (0 ≤ θ.2.2.2.2 ∧ θ.2.2.2.2 ≤ 8) := hT.1
      refine w_ldI e75_9 (fun _ => rfl) rfl ?_
      refine w_kS e75_11 rfl ?_
      refine w_ic e75_14 (by omega) (by omega) (fun (h1 : 128 ≤ x8) => ?_) (fun (h1 : x8 < 128) => ?_)
      ·
        refine w_ldL e75_45 (fun _ => rfl) rfl ?_
        exact w_rl e75_47 rfl ⟨rfl, _, rfl⟩
      ·
        refine w_ldL e75_17 (fun _ => rfl) rfl ?_
        refine w_x e75_19 (fun _ => rfl) ?_
        refine w_lcmp e75_20 (fun q2 (h3 : -1 ≤ q2 ∧ q2 ≤ 1) h4 h5 => ?_)
        refine w_if e75_21 (by omega) (fun (h6 : q2 = 0) => ?_) (fun (h6 : q2 ≠ 0) => ?_)
        ·
          refine w_ldL e75_45 (fun _ => rfl) rfl ?_
          exact w_rl e75_47 rfl ⟨rfl, _, rfl⟩
        ·
          refine w_ldL e75_24 (fun _ => rfl) rfl ?_
          refine w_ldL e75_26 (fun _ => rfl) rfl ?_
          refine w_remO e75_28 (fun hz => h6 (h4.mpr hz)) (fun l7 => ?_)
          refine w_stL (j := 9) (A1 := [some (.long l_0), none, some (.long l_1), none, some (.long y4), none, some (.long y6), none, some (.int (vz x8)), some (.long l7), none]) e75_29 (fun _ => rfl) (by decide) rfl ?_
          refine w_ldL e75_31 (fun _ => rfl) rfl ?_
          refine w_stL (j := 4) (A1 := [some (.long l_0), none, some (.long l_1), none, some (.long y6), none, some (.long y6), none, some (.int (vz x8)), some (.long l7), none]) e75_33 (fun _ => rfl) (by decide) rfl ?_
          refine w_ldL e75_35 (fun _ => rfl) rfl ?_
          refine w_stL (j := 6) (A1 := [some (.long l_0), none, some (.long l_1), none, some (.long y6), none, some (.long l7), none, some (.int (vz x8)), some (.long l7), none]) e75_37 (fun _ => rfl) (by decide) rfl ?_
          refine w_iinc (A1 := [some (.long l_0), none, some (.long l_1), none, some (.long y6), none, some (.long l7), none, some (.int (vz (x8 + 1))), some (.long l7), none]) e75_39 rfl (by decide) rfl ?_
          refine w_x e75_42 (fun _ => rfl) ?_
          exact w_sub (A1 := [some (.long l_0), none, some (.long l_1), none, some (.long y6), none, some (.long l7), none, some (.int (vz (x8 + 1))), none, none]) (And.intro rfl (And.intro rfl (And.intro rfl (And.intro rfl (And.intro rfl trivial))))) ((ih) y6 l7 (x8 + 1) (by omega) (by omega))
set_option maxRecDepth 100000 in
set_option maxHeartbeats 4000000 in
theorem c75 {θ : tc_S} {v0 : (Bool × Bool) × vm_H} {vh : vm_H} (hT : tc θ v0 vh) {l_0 : Int64} {l_1 : Int64} : vm_Rp 0 0 75 [.long l_0, .long l_1] vh (fun r v1 => vh = v1 ∧ ∃ q : Int64, r = some (.long q)) := by
  have hok : (0 ≤ θ.1 ∧ θ.1 ≤ 8) ∧ (0 ≤ θ.2.1 ∧ θ.2.1 ≤ 16) ∧ (-2147483648 ≤ θ.2.2.2.1 ∧ θ.2.2.2.1 < 2147483648) ∧ (0 ≤ θ.2.2.2.2 ∧ θ.2.2.2.2 ≤ 8) := hT.1
  refine w_in (m := 7) ?_
  show vm_Wp _ _ _ 0 [some (.long l_0), none, some (.long l_1), none, none, none, none, none, none, none, none] [] _ _
  refine w_ldL e75_0 (fun _ => rfl) rfl ?_
  refine w_stL (j := 4) (A1 := [some (.long l_0), none, some (.long l_1), none, some (.long l_0), none, none, none, none, none, none]) e75_1 (fun _ => rfl) (by decide) rfl ?_
  refine w_ldL e75_3 (fun _ => rfl) rfl ?_
  refine w_stL (j := 6) (A1 := [some (.long l_0), none, some (.long l_1), none, some (.long l_0), none, some (.long l_1), none, none, none, none]) e75_4 (fun _ => rfl) (by decide) rfl ?_
  refine w_kI e75_6 ?_
  refine w_stI (j := 8) (A1 := [some (.long l_0), none, some (.long l_1), none, some (.long l_0), none, some (.long l_1), none, some (.int (vz 0)), none, none]) e75_7 (fun _ => rfl) (by decide) rfl ?_
  exact w_sub (A1 := [some (.long l_0), none, some (.long l_1), none, some (.long l_0), none, some (.long l_1), none, some (.int (vz 0)), none, none]) (And.intro rfl (And.intro rfl (And.intro rfl (And.intro rfl (And.intro rfl trivial))))) (((c75_L (θ := θ) (l_0 := l_0) (l_1 := l_1) (v0 := v0) (vh := vh) hT _)) l_0 l_1 0 (by omega) (Nat.lt_succ_self _))
set_option maxRecDepth 100000 in
set_option maxHeartbeats 4000000 in
theorem c2 {θ : tc_S} {v0 : (Bool × Bool) × vm_H} {vh : vm_H} (hT : tc θ v0 vh) {i1 : Int} (hi_1 : -2147483648 ≤ i1 ∧ i1 < 2147483648) : vm_Rp 0 0 2 [.ref 2, .int (vz i1)] vh (fun r v1 => vh = v1 ∧ ∃ q : Int, ((0 ≤ q ∧ q ≤ 1) ∧ ((q = 0 ∧ (i1 < 0 ∨ θ.1 ≤ i1)) ∨ (q = 1 ∧ 0 ≤ i1 ∧ i1 < θ.1)) ∧ θ.1 ≤ 8) ∧ r = some (.int (vz q))) := by
  have hok : (0 ≤ θ.1 ∧ θ.1 ≤ 8) ∧ (0 ≤ θ.2.1 ∧ θ.2.1 ≤ 16) ∧ (-2147483648 ≤ θ.2.2.2.1 ∧ θ.2.2.2.1 < 2147483648) ∧ (0 ≤ θ.2.2.2.2 ∧ θ.2.2.2.2 ≤ 8) := hT.1
  refine w_in (m := 0) ?_
  show vm_Wp _ _ _ 0 [some (.ref 2), some (.int (vz i1))] [] _ _
  refine w_ldI e2_0 (fun _ => rfl) rfl ?_
  refine w_if e2_1 hi_1 (fun (h1 : i1 < 0) => ?_) (fun (h1 : 0 ≤ i1) => ?_)
  ·
    refine w_kI e2_16 ?_
    exact w_rz e2_17 rfl (by omega) ⟨rfl, 0, (by omega), rfl⟩
  ·
    refine w_ldI e2_4 (fun _ => rfl) rfl ?_
    refine w_ldA e2_5 (fun _ => rfl) rfl ?_
    obtain ⟨hn3, e2⟩ := tc_places hT
    refine w_get e2_6 e2 rfl ?_
    refine w_ic e2_9 hi_1 (by omega) (fun (h4 : θ.1 ≤ i1) => ?_) (fun (h4 : i1 < θ.1) => ?_)
    ·
      refine w_kI e2_16 ?_
      exact w_rz e2_17 rfl (by omega) ⟨rfl, 0, (by omega), rfl⟩
    ·
      refine w_kI e2_12 ?_
      refine w_x e2_13 (fun _ => rfl) ?_
      exact w_rz e2_17 rfl (by omega) ⟨rfl, 1, (by omega), rfl⟩
set_option maxRecDepth 100000 in
set_option maxHeartbeats 4000000 in
theorem c4 {θ : tc_S} {v0 : (Bool × Bool) × vm_H} {vh : vm_H} (hT : tc θ v0 vh) {i1 : Int} (hi_1 : -2147483648 ≤ i1 ∧ i1 < 2147483648) : vm_Rp 1 21 4 [.ref 2, .int (vz i1)] vh (fun r v1 => vh = v1 ∧ ∃ q : Int, (-2147483648 ≤ q ∧ q < 2147483648) ∧ r = some (.int (vz q))) := by
  have hok : (0 ≤ θ.1 ∧ θ.1 ≤ 8) ∧ (0 ≤ θ.2.1 ∧ θ.2.1 ≤ 16) ∧ (-2147483648 ≤ θ.2.2.2.1 ∧ θ.2.2.2.1 < 2147483648) ∧ (0 ≤ θ.2.2.2.2 ∧ θ.2.2.2.2 ≤ 8) := hT.1
  refine w_in (m := 0) ?_
  show vm_Wp _ _ _ 0 [some (.ref 2), some (.int (vz i1))] [] _ _
  refine w_ldA e4_0 (fun _ => rfl) rfl ?_
  refine w_ldI e4_1 (fun _ => rfl) rfl ?_
  obtain ⟨hn2, e1⟩ := tc_places hT
  refine w_cv e4_2 (by decide) rfl e1 rfl (Nat.le_of_ble_eq_true rfl) (Nat.le_of_ble_eq_true rfl) (Nat.le_of_ble_eq_true rfl) (by decide) (by decide) (c2 hT hi_1) (fun o3 v4 hq5 => ?_)
  obtain ⟨rfl, q7, h8, rfl⟩ := hq5
  refine w_if e4_5 (by omega) (fun (h9 : q7 = 0) => ?_) (fun (h9 : q7 ≠ 0) => ?_)
  ·
    refine w_kI e4_17 ?_
    exact w_ri e4_18 rfl ⟨rfl, -1, (by omega), rfl⟩
  ·
    refine w_ldA e4_8 (fun _ => rfl) rfl ?_
    refine w_get e4_9 e1 rfl ?_
    refine w_ldI e4_12 (fun _ => rfl) rfl ?_
    obtain ⟨f11, hf12, e10⟩ := tc_vars hT
    refine w_aldF e4_13 e10 (by omega) (by omega) (by decide) hf12 (fun q13 (h14 : 0 ≤ q13 ∧ q13 < 8) => ?_)
    refine w_x e4_14 (fun _ => rfl) ?_
    exact w_ri e4_18 rfl ⟨rfl, q13, (by omega), rfl⟩
set_option maxRecDepth 100000 in
set_option maxHeartbeats 4000000 in
theorem c5_L {θ : tc_S} {v0 : (Bool × Bool) × vm_H} {vh : vm_H} (hT : tc θ v0 vh) {i1 : Int} (hi_1 : -2147483648 ≤ i1 ∧ i1 < 2147483648) : ∀ N : Nat, (∀ (x2 : Int), (0 ≤ x2 ∧ x2 ≤ 8) → ((8 - x2 : Int).toNat < N) → vm_Wp 0 0 5 2 [some (.ref 2), some (.int (vz i1)), some (.int (vz x2))] [] vh (vq_P 5 (fun r v1 => vh = v1 ∧ ∃ q : Int, (-1 ≤ q ∧ q < 8) ∧ r = some (.int (vz q))))) := by
  intro N
  induction N with
  | zero => exact (by intros; omega)
  | succ N ih =>
    ·
      intro x2 hx2 hN
      have hok : (0 ≤ θ.1 ∧ θ.1 ≤ 8) ∧ (0 ≤ θ.2.1 ∧ θ.2.1 ≤ 16) ∧ (-2147483648 ≤ θ.2.2.2.1 ∧ θ.2.2.2.1 < 2147483648) ∧ (0 ≤ θ.2.2.2.2 ∧ θ.2.2.2.2 ≤ 8) := hT.1
      refine w_ldI e5_2 (fun _ => rfl) rfl ?_
      refine w_ldA e5_3 (fun _ => rfl) rfl ?_
      obtain ⟨hn2, e1⟩ := tc_places hT
      refine w_get e5_4 e1 rfl ?_
      refine w_ic e5_7 (by omega) (by omega) (fun (h3 : θ.1 ≤ x2) => ?_) (fun (h3 : x2 < θ.1) => ?_)
      ·
        refine w_kI e5_28 ?_
        exact w_ri e5_29 rfl ⟨rfl, -1, (by omega), rfl⟩
      ·
        refine w_ldA e5_10 (fun _ => rfl) rfl ?_
        refine w_get e5_11 e1 rfl ?_
        refine w_ldI e5_14 (fun _ => rfl) rfl ?_
        obtain ⟨f5, hf6, e4⟩ := tc_vars hT
        refine w_aldF e5_15 e4 (by omega) (by omega) (by decide) hf6 (fun q7 (h8 : 0 ≤ q7 ∧ q7 < 8) => ?_)
        refine w_ldI e5_16 (fun _ => rfl) rfl ?_
        refine w_ic e5_17 (by omega) hi_1 (fun (h9 : q7 ≠ i1) => ?_) (fun (h9 : q7 = i1) => ?_)
        ·
          refine w_iinc (A1 := [some (.ref 2), some (.int (vz i1)), some (.int (vz (x2 + 1)))]) e5_22 rfl (by decide) rfl ?_
          refine w_x e5_25 (fun _ => rfl) ?_
          exact w_sub (A1 := [some (.ref 2), some (.int (vz i1)), some (.int (vz (x2 + 1)))]) (And.intro rfl (And.intro rfl (And.intro rfl trivial))) ((ih) (x2 + 1) (by omega) (by omega))
        ·
          refine w_ldI e5_20 (fun _ => rfl) rfl ?_
          exact w_ri e5_21 rfl ⟨rfl, x2, (by omega), rfl⟩
set_option maxRecDepth 100000 in
set_option maxHeartbeats 4000000 in
theorem c5 {θ : tc_S} {v0 : (Bool × Bool) × vm_H} {vh : vm_H} (hT : tc θ v0 vh) {i1 : Int} (hi_1 : -2147483648 ≤ i1 ∧ i1 < 2147483648) : vm_Rp 0 0 5 [.ref 2, .int (vz i1)] vh (fun r v1 => vh = v1 ∧ ∃ q : Int, (-1 ≤ q ∧ q < 8) ∧ r = some (.int (vz q))) := by
  have hok : (0 ≤ θ.1 ∧ θ.1 ≤ 8) ∧ (0 ≤ θ.2.1 ∧ θ.2.1 ≤ 16) ∧ (-2147483648 ≤ θ.2.2.2.1 ∧ θ.2.2.2.1 < 2147483648) ∧ (0 ≤ θ.2.2.2.2 ∧ θ.2.2.2.2 ≤ 8) := hT.1
  refine w_in (m := 1) ?_
  show vm_Wp _ _ _ 0 [some (.ref 2), some (.int (vz i1)), none] [] _ _
  refine w_kI e5_0 ?_
  refine w_stI (j := 2) (A1 := [some (.ref 2), some (.int (vz i1)), some (.int (vz 0))]) e5_1 (fun _ => rfl) (by decide) rfl ?_
  exact w_sub (A1 := [some (.ref 2), some (.int (vz i1)), some (.int (vz 0))]) (And.intro rfl (And.intro rfl (And.intro rfl trivial))) (((c5_L (θ := θ) (i1 := i1) (v0 := v0) (vh := vh) hT hi_1 _)) 0 (by omega) (Nat.lt_succ_self _))
set_option maxRecDepth 100000 in
set_option maxHeartbeats 4000000 in
theorem c7 {θ : tc_S} {v0 : (Bool × Bool) × vm_H} {vh : vm_H} (hT : tc θ v0 vh) {i1 : Int} (hi_1 : -2147483648 ≤ i1 ∧ i1 < 2147483648) : vm_Rp 0 0 7 [.ref 2, .int (vz i1)] vh (fun r v1 => vh = v1 ∧ ∃ q : Int, ((0 ≤ q ∧ q ≤ 1)) ∧ r = some (.int (vz q))) := by
  have hok : (0 ≤ θ.1 ∧ θ.1 ≤ 8) ∧ (0 ≤ θ.2.1 ∧ θ.2.1 ≤ 16) ∧ (-2147483648 ≤ θ.2.2.2.1 ∧ θ.2.2.2.1 < 2147483648) ∧ (0 ≤ θ.2.2.2.2 ∧ θ.2.2.2.2 ≤ 8) := hT.1
  refine w_in (m := 0) ?_
  show vm_Wp _ _ _ 0 [some (.ref 2), some (.int (vz i1))] [] _ _
  refine w_ldA e7_0 (fun _ => rfl) rfl ?_
  obtain ⟨hn2, e1⟩ := tc_places hT
  refine w_get e7_1 e1 rfl ?_
  refine w_kB e7_4 rfl ?_
  refine w_ic e7_6 (by omega) (by omega) (fun (h3 : 8 ≤ θ.1) => ?_) (fun (h3 : θ.1 < 8) => ?_)
  ·
    refine w_kI e7_20 ?_
    refine w_x e7_21 (fun _ => rfl) ?_
    exact w_rz e7_25 rfl (by omega) ⟨rfl, 1, (by omega), rfl⟩
  ·
    refine w_ldI e7_9 (fun _ => rfl) rfl ?_
    refine w_kI e7_10 ?_
    refine w_ldA e7_11 (fun _ => rfl) rfl ?_
    refine w_get e7_12 e1 rfl ?_
    refine w_imul e7_15 ?_
    refine w_oI e7_16 (fun _ => rfl) (fun q4 h5 => ?_)
    refine w_if e7_17 h5 (fun (h6 : q4 ≠ 0) => ?_) (fun (h6 : q4 = 0) => ?_)
    ·
      refine w_kI e7_24 ?_
      exact w_rz e7_25 rfl (by omega) ⟨rfl, 0, (by omega), rfl⟩
    ·
      refine w_kI e7_20 ?_
      refine w_x e7_21 (fun _ => rfl) ?_
      exact w_rz e7_25 rfl (by omega) ⟨rfl, 1, (by omega), rfl⟩
set_option maxRecDepth 100000 in
set_option maxHeartbeats 4000000 in
theorem c8_L {θ : tc_S} {v0 : (Bool × Bool) × vm_H} {vh : vm_H} (hT : tc θ v0 vh) {i1 : Int} (hi_1 : -2147483648 ≤ i1 ∧ i1 < 2147483648) : ∀ N : Nat, (∀ (y2 : Int64) (x4 : Int), (0 ≤ x4 ∧ x4 ≤ 8) → ((8 - x4 : Int).toNat < N) → vm_Wp 0 0 8 5 [some (.ref 2), some (.int (vz i1)), some (.long y2), none, some (.int (vz x4)), none, none] [] vh (vq_P 8 (fun r v1 => vh = v1 ∧ ∃ q : Int64, r = some (.long q)))) := by
  intro N
  induction N with
  | zero => exact (by intros; omega)
  | succ N ih =>
    ·
      intro y2 x4 hx4 hN
      have hok : (0 ≤ θ.1 ∧ θ.1 ≤ 8) ∧ (0 ≤ θ.2.1 ∧ θ.2.1 ≤ 16) ∧ (-2147483648 ≤ θ.2.2.2.1 ∧ θ.2.2.2.1 < 2147483648) ∧ (0 ≤ θ.2.2.2.2 ∧ θ.2.2.2.2 ≤ 8) := hT.1
      refine w_ldI e8_5 (fun _ => rfl) rfl ?_
      refine w_ldA e8_7 (fun _ => rfl) rfl ?_
      obtain ⟨hn3, e2⟩ := tc_places hT
      refine w_get e8_8 e2 rfl ?_
      refine w_ic e8_11 (by omega) (by omega) (fun (h4 : θ.1 ≤ x4) => ?_) (fun (h4 : x4 < θ.1) => ?_)
      ·
        refine w_ldL e8_48 (fun _ => rfl) rfl ?_
        exact w_rl e8_49 rfl ⟨rfl, _, rfl⟩
      ·
        refine w_ldI e8_14 (fun _ => rfl) rfl ?_
        refine w_kI e8_15 ?_
        refine w_ldA e8_16 (fun _ => rfl) rfl ?_
        refine w_get e8_17 e2 rfl ?_
        refine w_ldI e8_20 (fun _ => rfl) rfl ?_
        obtain ⟨f6, hf7, e5⟩ := tc_vars hT
        refine w_aldF e8_22 e5 (by omega) (by omega) (by decide) hf7 (fun q8 (h9 : 0 ≤ q8 ∧ q8 < 8) => ?_)
        refine w_imul e8_23 ?_
        refine w_oI e8_24 (fun _ => rfl) (fun q10 h11 => ?_)
        refine w_kB e8_25 rfl ?_
        refine w_iand e8_27 h11 (by omega) (fun q12 (h13 : 0 ≤ q12 ∧ q12 ≤ 15) => ?_)
        refine w_oL e8_28 (fun _ => rfl) (fun l14 => ?_)
        refine w_stL (j := 5) (A1 := [some (.ref 2), some (.int (vz i1)), some (.long y2), none, some (.int (vz x4)), some (.long l14), none]) e8_29 (fun _ => rfl) (by decide) rfl ?_
        refine w_ldL e8_31 (fun _ => rfl) rfl ?_
        refine w_ldL e8_32 (fun _ => rfl) rfl ?_
        refine w_kB e8_34 rfl ?_
        refine w_ldI e8_36 (fun _ => rfl) rfl ?_
        refine w_imul e8_38 ?_
        refine w_oL e8_39 (fun _ => rfl) (fun l15 => ?_)
        refine w_oL e8_40 (fun _ => rfl) (fun l16 => ?_)
        refine w_stL (j := 2) (A1 := [some (.ref 2), some (.int (vz i1)), some (.long l16), none, some (.int (vz x4)), some (.long l14), none]) e8_41 (fun _ => rfl) (by decide) rfl ?_
        refine w_iinc (A1 := [some (.ref 2), some (.int (vz i1)), some (.long l16), none, some (.int (vz (x4 + 1))), some (.long l14), none]) e8_42 rfl (by decide) rfl ?_
        refine w_x e8_45 (fun _ => rfl) ?_
        exact w_sub (A1 := [some (.ref 2), some (.int (vz i1)), some (.long l16), none, some (.int (vz (x4 + 1))), none, none]) (And.intro rfl (And.intro rfl (And.intro rfl (And.intro rfl trivial)))) ((ih) l16 (x4 + 1) (by omega) (by omega))
set_option maxRecDepth 100000 in
set_option maxHeartbeats 4000000 in
theorem c8 {θ : tc_S} {v0 : (Bool × Bool) × vm_H} {vh : vm_H} (hT : tc θ v0 vh) {i1 : Int} (hi_1 : -2147483648 ≤ i1 ∧ i1 < 2147483648) : vm_Rp 0 0 8 [.ref 2, .int (vz i1)] vh (fun r v1 => vh = v1 ∧ ∃ q : Int64, r = some (.long q)) := by
  have hok : (0 ≤ θ.1 ∧ θ.1 ≤ 8) ∧ (0 ≤ θ.2.1 ∧ θ.2.1 ≤ 16) ∧ (-2147483648 ≤ θ.2.2.2.1 ∧ θ.2.2.2.1 < 2147483648) ∧ (0 ≤ θ.2.2.2.2 ∧ θ.2.2.2.2 ≤ 8) := hT.1
  refine w_in (m := 5) ?_
  show vm_Wp _ _ _ 0 [some (.ref 2), some (.int (vz i1)), none, none, none, none, none] [] _ _
  refine w_oL e8_0 (fun _ => rfl) (fun l1 => ?_)
  refine w_stL (j := 2) (A1 := [some (.ref 2), some (.int (vz i1)), some (.long l1), none, none, none, none]) e8_1 (fun _ => rfl) (by decide) rfl ?_
  refine w_kI e8_2 ?_
  refine w_stI (j := 4) (A1 := [some (.ref 2), some (.int (vz i1)), some (.long l1), none, some (.int (vz 0)), none, none]) e8_3 (fun _ => rfl) (by decide) rfl ?_
  exact w_sub (A1 := [some (.ref 2), some (.int (vz i1)), some (.long l1), none, some (.int (vz 0)), none, none]) (And.intro rfl (And.intro rfl (And.intro rfl (And.intro rfl trivial)))) (((c8_L (θ := θ) (i1 := i1) (v0 := v0) (vh := vh) hT hi_1 _)) l1 0 (by omega) (Nat.lt_succ_self _))
set_option maxRecDepth 100000 in
set_option maxHeartbeats 4000000 in
theorem c9_L {θ : tc_S} {v0 : (Bool × Bool) × vm_H} {vh : vm_H} (hT : tc θ v0 vh) {l_1 : Int64} : ∀ N : Nat, (∀ (x3 : Int) (x4 : Int), (-2147483648 ≤ x3 ∧ x3 < 2147483648) → (0 ≤ x4 ∧ x4 ≤ 8) → ((8 - x4 : Int).toNat < N) → vm_Wp 1 22 9 5 [some (.ref 2), some (.long l_1), none, some (.int (vz x3)), some (.int (vz x4))] [] vh (vq_P 9 (fun r v1 => vh = v1 ∧ ∃ q : Int, (-2147483648 ≤ q ∧ q < 2147483648) ∧ r = some (.int (vz q))))) := by
  intro N
  induction N with
  | zero => exact (by intros; omega)
  | succ N ih =>
    ·
      intro x3 x4 hx3 hx4 hN
      have hok : (0 ≤ θ.1 ∧ θ.1 ≤ 8) ∧ (0 ≤ θ.2.1 ∧ θ.2.1 ≤ 16) ∧ (-2147483648 ≤ θ.2.2.2.1 ∧ θ.2.2.2.1 < 2147483648) ∧ (0 ≤ θ.2.2.2.2 ∧ θ.2.2.2.2 ≤ 8) := hT.1
      refine w_ldI e9_5 (fun _ => rfl) rfl ?_
      refine w_ldA e9_7 (fun _ => rfl) rfl ?_
      obtain ⟨hn2, e1⟩ := tc_places hT
      refine w_get e9_8 e1 rfl ?_
      refine w_ic e9_11 (by omega) (by omega) (fun (h3 : θ.1 ≤ x4) => ?_) (fun (h3 : x4 < θ.1) => ?_)
      ·
        refine w_ldI e9_39 (fun _ => rfl) rfl ?_
        exact w_ri e9_40 rfl ⟨rfl, x3, hx3, rfl⟩
      ·
        refine w_ldI e9_14 (fun _ => rfl) rfl ?_
        refine w_ldL e9_15 (fun _ => rfl) rfl ?_
        refine w_ldI e9_16 (fun _ => rfl) rfl ?_
        refine w_cs e9_18 (by decide) (Nat.le_of_ble_eq_true rfl) (Nat.le_of_ble_eq_true rfl) (Nat.le_of_ble_eq_true rfl) (by decide) (by decide) (c73 hT (by omega)) (fun o4 v5 hq6 => ?_)
        obtain ⟨rfl, q8, h9, rfl⟩ := hq6
        refine w_kI e9_21 ?_
        refine w_ldA e9_22 (fun _ => rfl) rfl ?_
        refine w_get e9_23 e1 rfl ?_
        refine w_ldI e9_26 (fun _ => rfl) rfl ?_
        obtain ⟨f11, hf12, e10⟩ := tc_vars hT
        refine w_aldF e9_28 e10 (by omega) (by omega) (by decide) hf12 (fun q13 (h14 : 0 ≤ q13 ∧ q13 < 8) => ?_)
        refine w_imul e9_29 ?_
        refine w_oI e9_30 (fun _ => rfl) (fun q15 h16 => ?_)
        refine w_oI e9_31 (fun _ => rfl) (fun q17 h18 => ?_)
        refine w_stI (j := 3) (A1 := [some (.ref 2), some (.long l_1), none, some (.int (vz q17)), some (.int (vz x4))]) e9_32 (fun _ => rfl) (by decide) rfl ?_
        refine w_iinc (A1 := [some (.ref 2), some (.long l_1), none, some (.int (vz q17)), some (.int (vz (x4 + 1)))]) e9_33 rfl (by decide) rfl ?_
        refine w_x e9_36 (fun _ => rfl) ?_
        exact w_sub (A1 := [some (.ref 2), some (.long l_1), none, some (.int (vz q17)), some (.int (vz (x4 + 1)))]) (And.intro rfl (And.intro rfl (And.intro rfl (And.intro rfl trivial)))) ((ih) q17 (x4 + 1) h18 (by omega) (by omega))
set_option maxRecDepth 100000 in
set_option maxHeartbeats 4000000 in
theorem c9 {θ : tc_S} {v0 : (Bool × Bool) × vm_H} {vh : vm_H} (hT : tc θ v0 vh) {l_1 : Int64} : vm_Rp 1 22 9 [.ref 2, .long l_1] vh (fun r v1 => vh = v1 ∧ ∃ q : Int, (-2147483648 ≤ q ∧ q < 2147483648) ∧ r = some (.int (vz q))) := by
  have hok : (0 ≤ θ.1 ∧ θ.1 ≤ 8) ∧ (0 ≤ θ.2.1 ∧ θ.2.1 ≤ 16) ∧ (-2147483648 ≤ θ.2.2.2.1 ∧ θ.2.2.2.1 < 2147483648) ∧ (0 ≤ θ.2.2.2.2 ∧ θ.2.2.2.2 ≤ 8) := hT.1
  refine w_in (m := 2) ?_
  show vm_Wp _ _ _ 0 [some (.ref 2), some (.long l_1), none, none, none] [] _ _
  refine w_kI e9_0 ?_
  refine w_stI (j := 3) (A1 := [some (.ref 2), some (.long l_1), none, some (.int (vz 0)), none]) e9_1 (fun _ => rfl) (by decide) rfl ?_
  refine w_kI e9_2 ?_
  refine w_stI (j := 4) (A1 := [some (.ref 2), some (.long l_1), none, some (.int (vz 0)), some (.int (vz 0))]) e9_3 (fun _ => rfl) (by decide) rfl ?_
  exact w_sub (A1 := [some (.ref 2), some (.long l_1), none, some (.int (vz 0)), some (.int (vz 0))]) (And.intro rfl (And.intro rfl (And.intro rfl (And.intro rfl trivial)))) (((c9_L (θ := θ) (l_1 := l_1) (v0 := v0) (vh := vh) hT _)) 0 0 (by omega) (by omega) (Nat.lt_succ_self _))
set_option maxRecDepth 100000 in
set_option maxHeartbeats 4000000 in
theorem c17 {θ : tc_S} {v0 : (Bool × Bool) × vm_H} {vh : vm_H} (hT : tc θ v0 vh) {a0 : Nat} (ha0 : ty a0 = 1) (hw0 : wok v0 a0) : vm_Rp 0 0 17 [.ref a0] vh (fun r v1 => (tc θ v0 v1) ∧ r = none) := by
  have hok : (0 ≤ θ.1 ∧ θ.1 ≤ 8) ∧ (0 ≤ θ.2.1 ∧ θ.2.1 ≤ 16) ∧ (-2147483648 ≤ θ.2.2.2.1 ∧ θ.2.2.2.1 < 2147483648) ∧ (0 ≤ θ.2.2.2.2 ∧ θ.2.2.2.2 ≤ 8) := hT.1
  refine w_in (m := 0) ?_
  show vm_Wp _ _ _ 0 [some (.ref a0)] [] _ _
  refine w_ldA e17_0 (fun _ => rfl) rfl ?_
  refine w_kI e17_1 ?_
  obtain ⟨c2, hc3, e1⟩ := tc_poly hT ha0
  refine w_put e17_2 e1 (Nat.le_of_ble_eq_true rfl) rfl (fun v6 b4 h5 => ?_)
  have h5 : vm_at v6 a0 = some (.inr (1, [.ref (a0 + 1), .ref (a0 + 2), .int (vz 0)])) := h5
  have hT7 := ts_poly hT ha0 (by omega) hw0 b4 h5
  exact w_rv e17_5 rfl ⟨hT7, rfl⟩
set_option maxRecDepth 100000 in
set_option maxHeartbeats 4000000 in
theorem c18 {θ : tc_S} {v0 : (Bool × Bool) × vm_H} {vh : vm_H} (hT : tc θ v0 vh) {a0 : Nat} (ha0 : ty a0 = 1) {i1 : Int} (hi_1 : -2147483648 ≤ i1 ∧ i1 < 2147483648) : vm_Rp 0 0 18 [.ref a0, .int (vz i1)] vh (fun r v1 => vh = v1 ∧ ∃ q : Int, ((0 ≤ q ∧ q ≤ 1) ∧ (q = 0 ∨ (0 ≤ i1 ∧ i1 < 60))) ∧ r = some (.int (vz q))) := by
  have hok : (0 ≤ θ.1 ∧ θ.1 ≤ 8) ∧ (0 ≤ θ.2.1 ∧ θ.2.1 ≤ 16) ∧ (-2147483648 ≤ θ.2.2.2.1 ∧ θ.2.2.2.1 < 2147483648) ∧ (0 ≤ θ.2.2.2.2 ∧ θ.2.2.2.2 ≤ 8) := hT.1
  refine w_in (m := 0) ?_
  show vm_Wp _ _ _ 0 [some (.ref a0), some (.int (vz i1))] [] _ _
  refine w_ldI e18_0 (fun _ => rfl) rfl ?_
  refine w_if e18_1 hi_1 (fun (h1 : i1 < 0) => ?_) (fun (h1 : 0 ≤ i1) => ?_)
  ·
    refine w_kI e18_16 ?_
    exact w_rz e18_17 rfl (by omega) ⟨rfl, 0, (by omega), rfl⟩
  ·
    refine w_ldI e18_4 (fun _ => rfl) rfl ?_
    refine w_ldA e18_5 (fun _ => rfl) rfl ?_
    obtain ⟨c3, hc4, e2⟩ := tc_poly hT ha0
    refine w_get e18_6 e2 rfl ?_
    refine w_ic e18_9 hi_1 (by omega) (fun (h5 : c3 ≤ i1) => ?_) (fun (h5 : i1 < c3) => ?_)
    ·
      refine w_kI e18_16 ?_
      exact w_rz e18_17 rfl (by omega) ⟨rfl, 0, (by omega), rfl⟩
    ·
      refine w_kI e18_12 ?_
      refine w_x e18_13 (fun _ => rfl) ?_
      exact w_rz e18_17 rfl (by omega) ⟨rfl, 1, (by omega), rfl⟩
set_option maxRecDepth 100000 in
set_option maxHeartbeats 4000000 in
theorem c22_L {θ : tc_S} {v0 : (Bool × Bool) × vm_H} {vh : vm_H} (hT : tc θ v0 vh) {a0 : Nat} (ha0 : ty a0 = 1) {i1 : Int} (hi_1 : -2147483648 ≤ i1 ∧ i1 < 2147483648) : ∀ N : Nat, (∀ (x2 : Int) (x3 : Int), (-2147483648 ≤ x2 ∧ x2 < 2147483648) → (0 ≤ x3 ∧ x3 ≤ 60) → ((60 - x3 : Int).toNat < N) → vm_Wp 1 30 22 4 [some (.ref a0), some (.int (vz i1)), some (.int (vz x2)), some (.int (vz x3))] [] vh (vq_P 22 (fun r v1 => vh = v1 ∧ ∃ q : Int, (-2147483648 ≤ q ∧ q < 2147483648) ∧ r = some (.int (vz q))))) := by
  intro N
  induction N with
  | zero => exact (by intros; omega)
  | succ N ih =>
    ·
      intro x2 x3 hx2 hx3 hN
      have hok : (0 ≤ θ.1 ∧ θ.1 ≤ 8) ∧ (0 ≤ θ.2.1 ∧ θ.2.1 ≤ 16) ∧ (-2147483648 ≤ θ.2.2.2.1 ∧ θ.2.2.2.1 < 2147483648) ∧ (0 ≤ θ.2.2.2.2 ∧ θ.2.2.2.2 ≤ 8) := hT.1
      refine w_ldI e22_4 (fun _ => rfl) rfl ?_
      refine w_ldA e22_5 (fun _ => rfl) rfl ?_
      obtain ⟨c2, hc3, e1⟩ := tc_poly hT ha0
      refine w_get e22_6 e1 rfl ?_
      refine w_ic e22_9 (by omega) (by omega) (fun (h4 : c2 ≤ x3) => ?_) (fun (h4 : x3 < c2) => ?_)
      ·
        refine w_ldI e22_33 (fun _ => rfl) rfl ?_
        exact w_ri e22_34 rfl ⟨rfl, x2, hx2, rfl⟩
      ·
        refine w_ldI e22_12 (fun _ => rfl) rfl ?_
        refine w_ldA e22_13 (fun _ => rfl) rfl ?_
        refine w_get e22_14 e1 rfl ?_
        refine w_ldI e22_17 (fun _ => rfl) rfl ?_
        obtain ⟨f6, e5⟩ := tc_l60 hT (ty_p ha0).1
        refine w_lldO e22_18 e5 (by omega) (by omega) (by decide) (fun l7 => ?_)
        refine w_ldI e22_19 (fun _ => rfl) rfl ?_
        refine w_cs e22_20 (by decide) (Nat.le_of_ble_eq_true rfl) (Nat.le_of_ble_eq_true rfl) (Nat.le_of_ble_eq_true rfl) (by decide) (by decide) (c73 hT hi_1) (fun o8 v9 hq10 => ?_)
        obtain ⟨rfl, q12, h13, rfl⟩ := hq10
        refine w_max e22_23 hx2 h13 (Nat.le_of_ble_eq_true rfl) (by decide) (by decide) (fun q14 h15 => ?_)
        refine w_stI (j := 2) (A1 := [some (.ref a0), some (.int (vz i1)), some (.int (vz q14)), some (.int (vz x3))]) e22_26 (fun _ => rfl) (by decide) rfl ?_
        refine w_iinc (A1 := [some (.ref a0), some (.int (vz i1)), some (.int (vz q14)), some (.int (vz (x3 + 1)))]) e22_27 rfl (by decide) rfl ?_
        refine w_x e22_30 (fun _ => rfl) ?_
        exact w_sub (A1 := [some (.ref a0), some (.int (vz i1)), some (.int (vz q14)), some (.int (vz (x3 + 1)))]) (And.intro rfl (And.intro rfl (And.intro rfl (And.intro rfl trivial)))) ((ih) q14 (x3 + 1) (by omega) (by omega) (by omega))
set_option maxRecDepth 100000 in
set_option maxHeartbeats 4000000 in
theorem c22 {θ : tc_S} {v0 : (Bool × Bool) × vm_H} {vh : vm_H} (hT : tc θ v0 vh) {a0 : Nat} (ha0 : ty a0 = 1) {i1 : Int} (hi_1 : -2147483648 ≤ i1 ∧ i1 < 2147483648) : vm_Rp 1 30 22 [.ref a0, .int (vz i1)] vh (fun r v1 => vh = v1 ∧ ∃ q : Int, (-2147483648 ≤ q ∧ q < 2147483648) ∧ r = some (.int (vz q))) := by
  have hok : (0 ≤ θ.1 ∧ θ.1 ≤ 8) ∧ (0 ≤ θ.2.1 ∧ θ.2.1 ≤ 16) ∧ (-2147483648 ≤ θ.2.2.2.1 ∧ θ.2.2.2.1 < 2147483648) ∧ (0 ≤ θ.2.2.2.2 ∧ θ.2.2.2.2 ≤ 8) := hT.1
  refine w_in (m := 2) ?_
  show vm_Wp _ _ _ 0 [some (.ref a0), some (.int (vz i1)), none, none] [] _ _
  refine w_kI e22_0 ?_
  refine w_stI (j := 2) (A1 := [some (.ref a0), some (.int (vz i1)), some (.int (vz 0)), none]) e22_1 (fun _ => rfl) (by decide) rfl ?_
  refine w_kI e22_2 ?_
  refine w_stI (j := 3) (A1 := [some (.ref a0), some (.int (vz i1)), some (.int (vz 0)), some (.int (vz 0))]) e22_3 (fun _ => rfl) (by decide) rfl ?_
  exact w_sub (A1 := [some (.ref a0), some (.int (vz i1)), some (.int (vz 0)), some (.int (vz 0))]) (And.intro rfl (And.intro rfl (And.intro rfl (And.intro rfl trivial)))) (((c22_L (θ := θ) (a0 := a0) (i1 := i1) (v0 := v0) (vh := vh) hT ha0 hi_1 _)) 0 0 (by omega) (by omega) (Nat.lt_succ_self _))
set_option maxRecDepth 100000 in
set_option maxHeartbeats 4000000 in
theorem c21_L {θ : tc_S} {v0 : (Bool × Bool) × vm_H} {vh : vm_H} (hT : tc θ v0 vh) {a0 : Nat} (ha0 : ty a0 = 1) {a1 : Nat} (ha1 : ty a1 = 1) : ∀ N : Nat, (∀ (x2 : Int), (0 ≤ x2 ∧ x2 ≤ 60) → ((60 - x2 : Int).toNat < N) → vm_Wp 0 0 21 15 [some (.ref a0), some (.ref a1), some (.int (vz x2))] [] vh (vq_P 21 (fun r v1 => vh = v1 ∧ ∃ q : Int, ((0 ≤ q ∧ q ≤ 1)) ∧ r = some (.int (vz q))))) := by
  intro N
  induction N with
  | zero => exact (by intros; omega)
  | succ N ih =>
    ·
      intro x2 hx2 hN
      have hok : (0 ≤ θ.1 ∧ θ.1 ≤ 8) ∧ (0 ≤ θ.2.1 ∧ θ.2.1 ≤ 16) ∧ (-2147483648 ≤ θ.2.2.2.1 ∧ θ.2.2.2.1 < 2147483648) ∧ (0 ≤ θ.2.2.2.2 ∧ θ.2.2.2.2 ≤ 8) := hT.1
      refine w_ldI e21_15 (fun _ => rfl) rfl ?_
      refine w_ldA e21_16 (fun _ => rfl) rfl ?_
      obtain ⟨c9, hc10, e8⟩ := tc_poly hT ha0
      refine w_get e21_17 e8 rfl ?_
      refine w_ic e21_20 (by omega) (by omega) (fun (h11 : c9 ≤ x2) => ?_) (fun (h11 : x2 < c9) => ?_)
      ·
        refine w_kI e21_63 ?_
        exact w_rz e21_64 rfl (by omega) ⟨rfl, 1, (by omega), rfl⟩
      ·
        refine w_ldA e21_23 (fun _ => rfl) rfl ?_
        refine w_get e21_24 e8 rfl ?_
        refine w_ldI e21_27 (fun _ => rfl) rfl ?_
        obtain ⟨f13, e12⟩ := tc_l60 hT (ty_p ha0).1
        refine w_lldO e21_28 e12 (by omega) (by omega) (by decide) (fun l14 => ?_)
        refine w_ldA e21_29 (fun _ => rfl) rfl ?_
        obtain ⟨c16, hc17, e15⟩ := tc_poly hT ha1
        refine w_get e21_30 e15 rfl ?_
        refine w_ldI e21_33 (fun _ => rfl) rfl ?_
        obtain ⟨f19, e18⟩ := tc_l60 hT (ty_p ha1).1
        refine w_lldO e21_34 e18 (by omega) (by omega) (by decide) (fun l20 => ?_)
        refine w_lcmp e21_35 (fun q21 (h22 : -1 ≤ q21 ∧ q21 ≤ 1) h23 h24 => ?_)
        refine w_if e21_36 (by omega) (fun (h25 : q21 ≠ 0) => ?_) (fun (h25 : q21 = 0) => ?_)
        ·
          refine w_kI e21_55 ?_
          exact w_rz e21_56 rfl (by omega) ⟨rfl, 0, (by omega), rfl⟩
        ·
          refine w_ldA e21_39 (fun _ => rfl) rfl ?_
          refine w_get e21_40 e8 rfl ?_
          refine w_ldI e21_43 (fun _ => rfl) rfl ?_
          obtain ⟨f27, e26⟩ := tc_l60 hT (ty_p ha0).2
          refine w_lldO e21_44 e26 (by omega) (by omega) (by decide) (fun l28 => ?_)
          refine w_ldA e21_45 (fun _ => rfl) rfl ?_
          refine w_get e21_46 e15 rfl ?_
          refine w_ldI e21_49 (fun _ => rfl) rfl ?_
          obtain ⟨f30, e29⟩ := tc_l60 hT (ty_p ha1).2
          refine w_lldO e21_50 e29 (by omega) (by omega) (by decide) (fun l31 => ?_)
          refine w_lcmp e21_51 (fun q32 (h33 : -1 ≤ q32 ∧ q32 ≤ 1) h34 h35 => ?_)
          refine w_if e21_52 (by omega) (fun (h36 : q32 = 0) => ?_) (fun (h36 : q32 ≠ 0) => ?_)
          ·
            refine w_iinc (A1 := [some (.ref a0), some (.ref a1), some (.int (vz (x2 + 1)))]) e21_57 rfl (by decide) rfl ?_
            refine w_x e21_60 (fun _ => rfl) ?_
            exact w_sub (A1 := [some (.ref a0), some (.ref a1), some (.int (vz (x2 + 1)))]) (And.intro rfl (And.intro rfl (And.intro rfl trivial))) ((ih) (x2 + 1) (by omega) (by omega))
          ·
            refine w_kI e21_55 ?_
            exact w_rz e21_56 rfl (by omega) ⟨rfl, 0, (by omega), rfl⟩
set_option maxRecDepth 100000 in
set_option maxHeartbeats 4000000 in
theorem c21 {θ : tc_S} {v0 : (Bool × Bool) × vm_H} {vh : vm_H} (hT : tc θ v0 vh) {a0 : Nat} (ha0 : ty a0 = 1) {a1 : Nat} (ha1 : ty a1 = 1) : vm_Rp 0 0 21 [.ref a0, .ref a1] vh (fun r v1 => vh = v1 ∧ ∃ q : Int, ((0 ≤ q ∧ q ≤ 1)) ∧ r = some (.int (vz q))) := by
  have hok : (0 ≤ θ.1 ∧ θ.1 ≤ 8) ∧ (0 ≤ θ.2.1 ∧ θ.2.1 ≤ 16) ∧ (-2147483648 ≤ θ.2.2.2.1 ∧ θ.2.2.2.1 < 2147483648) ∧ (0 ≤ θ.2.2.2.2 ∧ θ.2.2.2.2 ≤ 8) := hT.1
  refine w_in (m := 1) ?_
  show vm_Wp _ _ _ 0 [some (.ref a0), some (.ref a1), none] [] _ _
  refine w_ldA e21_0 (fun _ => rfl) rfl ?_
  obtain ⟨c2, hc3, e1⟩ := tc_poly hT ha0
  refine w_get e21_1 e1 rfl ?_
  refine w_ldA e21_4 (fun _ => rfl) rfl ?_
  obtain ⟨c5, hc6, e4⟩ := tc_poly hT ha1
  refine w_get e21_5 e4 rfl ?_
  refine w_ic e21_8 (by omega) (by omega) (fun (h7 : c2 = c5) => ?_) (fun (h7 : c2 ≠ c5) => ?_)
  ·
    refine w_kI e21_13 ?_
    refine w_stI (j := 2) (A1 := [some (.ref a0), some (.ref a1), some (.int (vz 0))]) e21_14 (fun _ => rfl) (by decide) rfl ?_
    exact w_sub (A1 := [some (.ref a0), some (.ref a1), some (.int (vz 0))]) (And.intro rfl (And.intro rfl (And.intro rfl trivial))) (((c21_L (θ := θ) (a0 := a0) (a1 := a1) (v0 := v0) (vh := vh) hT ha0 ha1 _)) 0 (by omega) (Nat.lt_succ_self _))
  ·
    refine w_kI e21_11 ?_
    exact w_rz e21_12 rfl (by omega) ⟨rfl, 0, (by omega), rfl⟩
set_option maxRecDepth 100000 in
set_option maxHeartbeats 4000000 in
theorem c26_L {θ : tc_S} {v0 : (Bool × Bool) × vm_H} {a0 : Nat} (ha0 : ty a0 = 1) (hw0 : wok v0 a0) : ∀ N : Nat, (∀ (vh : vm_H) (y1 : Int64) (x3 : Int), (tc θ v0 vh) → (0 ≤ x3 ∧ x3 ≤ 60) → ((200 - x3 : Int).toNat < N) → vm_Wp 1 30 26 12 [some (.ref a0), some (.long y1), none, some (.int (vz x3))] [] vh (vq_P 26 (fun r v1 => (tc θ v0 v1) ∧ r = none))) ∧ (∀ (vh : vm_H) (y1 : Int64) (x3 : Int), (tc θ v0 vh) → (0 ≤ x3 ∧ x3 ≤ 60) → (¬ y1 = 0) → ((60 - x3 : Int).toNat < N) → vm_Wp 1 30 26 69 [some (.ref a0), some (.long y1), none, some (.int (vz x3))] [] vh (vq_P 26 (fun r v1 => (tc θ v0 v1) ∧ r = none))) := by
  intro N
  induction N with
  | zero => exact ⟨by intros; omega, by intros; omega⟩
  | succ N ih =>
    refine ⟨?_, ?_⟩
    ·
      intro vh y1 x3 hT hx3 hN
      have hok : (0 ≤ θ.1 ∧ θ.1 ≤ 8) ∧ (0 ≤ θ.2.1 ∧ θ.2.1 ≤ 16) ∧ (-2147483648 ≤ θ.2.2.2.1 ∧ θ.2.2.2.1 < 2147483648) ∧ (0 ≤ θ.2.2.2.2 ∧ θ.2.2.2.2 ≤ 8) := hT.1
      refine w_ldI e26_12 (fun _ => rfl) rfl ?_
      refine w_ldA e26_13 (fun _ => rfl) rfl ?_
      obtain ⟨c6, hc7, e5⟩ := tc_poly hT ha0
      refine w_get e26_14 e5 rfl ?_
      refine w_ic e26_17 (by omega) (by omega) (fun (h8 : c6 ≤ x3) => ?_) (fun (h8 : x3 < c6) => ?_)
      ·
        refine w_ldA e26_40 (fun _ => rfl) rfl ?_
        refine w_get e26_41 e5 rfl ?_
        refine w_kI e26_44 ?_
        obtain ⟨f10, e9⟩ := tc_l60 hT (ty_p ha0).2
        refine w_lldO e26_45 e9 (by omega) (by omega) (by decide) (fun l11 => ?_)
        refine w_x e26_46 (fun _ => rfl) ?_
        refine w_lcmp e26_47 (fun q12 (h13 : -1 ≤ q12 ∧ q12 ≤ 1) h14 h15 => ?_)
        refine w_if e26_48 (by omega) (fun (h16 : 0 ≤ q12) => ?_) (fun (h16 : q12 < 0) => ?_)
        ·
          refine w_ldL e26_54 (fun _ => rfl) rfl ?_
          refine w_x e26_55 (fun _ => rfl) ?_
          refine w_lcmp e26_56 (fun q17 (h18 : -1 ≤ q17 ∧ q17 ≤ 1) h19 h20 => ?_)
          refine w_if e26_57 (by omega) (fun (h21 : q17 = 0) => ?_) (fun (h21 : q17 ≠ 0) => ?_)
          ·
            exact w_rv e26_66 rfl ⟨hT, rfl⟩
          ·
            refine w_ldL e26_60 (fun _ => rfl) rfl ?_
            refine w_x e26_61 (fun _ => rfl) ?_
            refine w_lcmp e26_62 (fun q22 (h23 : -1 ≤ q22 ∧ q22 ≤ 1) h24 h25 => ?_)
            refine w_if e26_63 (by omega) (fun (h26 : q22 ≠ 0) => ?_) (fun (h26 : q22 = 0) => ?_)
            ·
              refine w_kI e26_67 ?_
              refine w_stI (j := 3) (A1 := [some (.ref a0), some (.long y1), none, some (.int (vz 0))]) e26_68 (fun _ => rfl) (by decide) rfl ?_
              exact w_sub (A1 := [some (.ref a0), some (.long y1), none, some (.int (vz 0))]) (And.intro rfl (And.intro rfl (And.intro rfl trivial))) ((ih.2) vh y1 0 hT (by omega) (fun hz => h21 (h19.mpr hz)) (by omega))
            ·
              exact w_rv e26_66 rfl ⟨hT, rfl⟩
        ·
          refine w_ldL e26_51 (fun _ => rfl) rfl ?_
          refine w_oL e26_52 (fun _ => rfl) (fun l27 => ?_)
          refine w_stL (j := 1) (A1 := [some (.ref a0), some (.long l27), none, some (.int (vz x3))]) e26_53 (fun _ => rfl) (by decide) rfl ?_
          refine w_ldL e26_54 (fun _ => rfl) rfl ?_
          refine w_x e26_55 (fun _ => rfl) ?_
          refine w_lcmp e26_56 (fun q28 (h29 : -1 ≤ q28 ∧ q28 ≤ 1) h30 h31 => ?_)
          refine w_if e26_57 (by omega) (fun (h32 : q28 = 0) => ?_) (fun (h32 : q28 ≠ 0) => ?_)
          ·
            exact w_rv e26_66 rfl ⟨hT, rfl⟩
          ·
            refine w_ldL e26_60 (fun _ => rfl) rfl ?_
            refine w_x e26_61 (fun _ => rfl) ?_
            refine w_lcmp e26_62 (fun q33 (h34 : -1 ≤ q33 ∧ q33 ≤ 1) h35 h36 => ?_)
            refine w_if e26_63 (by omega) (fun (h37 : q33 ≠ 0) => ?_) (fun (h37 : q33 = 0) => ?_)
            ·
              refine w_kI e26_67 ?_
              refine w_stI (j := 3) (A1 := [some (.ref a0), some (.long l27), none, some (.int (vz 0))]) e26_68 (fun _ => rfl) (by decide) rfl ?_
              exact w_sub (A1 := [some (.ref a0), some (.long l27), none, some (.int (vz 0))]) (And.intro rfl (And.intro rfl (And.intro rfl trivial))) ((ih.2) vh l27 0 hT (by omega) (fun hz => h32 (h30.mpr hz)) (by omega))
            ·
              exact w_rv e26_66 rfl ⟨hT, rfl⟩
      ·
        refine w_ldA e26_20 (fun _ => rfl) rfl ?_
        refine w_get e26_21 e5 rfl ?_
        refine w_ldI e26_24 (fun _ => rfl) rfl ?_
        obtain ⟨f39, e38⟩ := tc_l60 hT (ty_p ha0).2
        refine w_lldO e26_25 e38 (by omega) (by omega) (by decide) (fun l40 => ?_)
        refine w_labs e26_26 (Nat.le_of_ble_eq_true rfl) (by decide) (by decide) (fun l41 => ?_)
        refine w_ldL e26_29 (fun _ => rfl) rfl ?_
        refine w_cs e26_30 (by decide) (Nat.le_of_ble_eq_true rfl) (Nat.le_of_ble_eq_true rfl) (Nat.le_of_ble_eq_true rfl) (by decide) (by decide) (c75 hT) (fun o42 v43 hq44 => ?_)
        obtain ⟨rfl, l46, rfl⟩ := hq44
        refine w_stL (j := 1) (A1 := [some (.ref a0), some (.long l46), none, some (.int (vz x3))]) e26_33 (fun _ => rfl) (by decide) rfl ?_
        refine w_iinc (A1 := [some (.ref a0), some (.long l46), none, some (.int (vz (x3 + 1)))]) e26_34 rfl (by decide) rfl ?_
        refine w_x e26_37 (fun _ => rfl) ?_
        exact w_sub (A1 := [some (.ref a0), some (.long l46), none, some (.int (vz (x3 + 1)))]) (And.intro rfl (And.intro rfl (And.intro rfl trivial))) ((ih.1) vh l46 (x3 + 1) hT (by omega) (by omega))
    ·
      intro vh y1 x3 hT hx3 hi0 hN
      have hok : (0 ≤ θ.1 ∧ θ.1 ≤ 8) ∧ (0 ≤ θ.2.1 ∧ θ.2.1 ≤ 16) ∧ (-2147483648 ≤ θ.2.2.2.1 ∧ θ.2.2.2.1 < 2147483648) ∧ (0 ≤ θ.2.2.2.2 ∧ θ.2.2.2.2 ≤ 8) := hT.1
      refine w_ldI e26_69 (fun _ => rfl) rfl ?_
      refine w_ldA e26_70 (fun _ => rfl) rfl ?_
      obtain ⟨c48, hc49, e47⟩ := tc_poly hT ha0
      refine w_get e26_71 e47 rfl ?_
      refine w_ic e26_74 (by omega) (by omega) (fun (h50 : c48 ≤ x3) => ?_) (fun (h50 : x3 < c48) => ?_)
      ·
        exact w_rv e26_93 rfl ⟨hT, rfl⟩
      ·
        refine w_ldA e26_77 (fun _ => rfl) rfl ?_
        refine w_get e26_78 e47 rfl ?_
        refine w_ldI e26_81 (fun _ => rfl) rfl ?_
        refine w_x e26_82 (fun _ => rfl) ?_
        obtain ⟨f52, e51⟩ := tc_l60 hT (ty_p ha0).2
        refine w_lldO e26_83 e51 (by omega) (by omega) (by decide) (fun l53 => ?_)
        refine w_ldL e26_84 (fun _ => rfl) rfl ?_
        refine w_divO e26_85 hi0 (fun l54 => ?_)
        refine w_lst e26_86 e51 (by omega) (by omega) (by decide) (fun v57 b55 h56 => ?_)
        have hT58 := ts_l60 hT (ty_p ha0).2 (wok_s hw0) b55 h56
        have e59 := (b55.2 a0 (by omega)).trans e47
        refine w_iinc (A1 := [some (.ref a0), some (.long y1), none, some (.int (vz (x3 + 1)))]) e26_87 rfl (by decide) rfl ?_
        refine w_x e26_90 (fun _ => rfl) ?_
        exact w_sub (A1 := [some (.ref a0), some (.long y1), none, some (.int (vz (x3 + 1)))]) (And.intro rfl (And.intro rfl (And.intro rfl trivial))) ((ih.2) v57 y1 (x3 + 1) hT58 (by omega) hi0 (by omega))
set_option maxRecDepth 100000 in
set_option maxHeartbeats 4000000 in
theorem c26 {θ : tc_S} {v0 : (Bool × Bool) × vm_H} {vh : vm_H} (hT : tc θ v0 vh) {a0 : Nat} (ha0 : ty a0 = 1) (hw0 : wok v0 a0) : vm_Rp 1 30 26 [.ref a0] vh (fun r v1 => (tc θ v0 v1) ∧ r = none) := by
  have hok : (0 ≤ θ.1 ∧ θ.1 ≤ 8) ∧ (0 ≤ θ.2.1 ∧ θ.2.1 ≤ 16) ∧ (-2147483648 ≤ θ.2.2.2.1 ∧ θ.2.2.2.1 < 2147483648) ∧ (0 ≤ θ.2.2.2.2 ∧ θ.2.2.2.2 ≤ 8) := hT.1
  refine w_in (m := 3) ?_
  show vm_Wp _ _ _ 0 [some (.ref a0), none, none, none] [] _ _
  refine w_ldA e26_0 (fun _ => rfl) rfl ?_
  obtain ⟨c2, hc3, e1⟩ := tc_poly hT ha0
  refine w_get e26_1 e1 rfl ?_
  refine w_if e26_4 (by omega) (fun (h4 : c2 ≠ 0) => ?_) (fun (h4 : c2 = 0) => ?_)
  ·
    refine w_x e26_8 (fun _ => rfl) ?_
    refine w_stL (j := 1) (A1 := [some (.ref a0), some (.long ((Int64.ofNat 0))), none, none]) e26_9 (fun _ => rfl) (by decide) rfl ?_
    refine w_kI e26_10 ?_
    refine w_stI (j := 3) (A1 := [some (.ref a0), some (.long ((Int64.ofNat 0))), none, some (.int (vz 0))]) e26_11 (fun _ => rfl) (by decide) rfl ?_
    exact w_sub (A1 := [some (.ref a0), some (.long ((Int64.ofNat 0))), none, some (.int (vz 0))]) (And.intro rfl (And.intro rfl (And.intro rfl trivial))) (((c26_L (θ := θ) (a0 := a0) (v0 := v0) ha0 hw0 _).1) vh ((Int64.ofNat 0)) 0 hT (by omega) (Nat.lt_succ_self _))
  ·
    exact w_rv e26_7 rfl ⟨hT, rfl⟩
set_option maxRecDepth 100000 in
set_option maxHeartbeats 4000000 in
theorem c15_L {θ : tc_S} {v0 : (Bool × Bool) × vm_H} {vh : vm_H} (hT : tc θ v0 vh) {l_1 : Int64} : ∀ N : Nat, (∀ (y3 : Int64) (x5 : Int), (0 ≤ x5 ∧ x5 ≤ 8) → (((8 - x5) * 8589934592 + 4294967296 : Int).toNat < N) → vm_Wp 1 22 15 5 [some (.ref 2), some (.long l_1), none, some (.long y3), none, some (.int (vz x5)), none, none] [] vh (vq_P 15 (fun r v1 => vh = v1 ∧ ∃ q : Int64, r = some (.long q)))) ∧ (∀ (y3 : Int64) (x5 : Int) (x6 : Int) (x7 : Int), (0 ≤ x5 ∧ x5 < 8) → (-2147483648 ≤ x6 ∧ x6 < 2147483648) → (0 ≤ x7 ∧ x7 < 2147483648) → (x5 < θ.1) → (((8 - x5) * 8589934592 + (2147483648 - x7) : Int).toNat < N) → vm_Wp 1 22 15 25 [some (.ref 2), some (.long l_1), none, some (.long y3), none, some (.int (vz x5)), some (.int (vz x6)), some (.int (vz x7))] [] vh (vq_P 15 (fun r v1 => vh = v1 ∧ ∃ q : Int64, r = some (.long q)))) := by
  intro N
  induction N with
  | zero => exact ⟨by intros; omega, by intros; omega⟩
  | succ N ih =>
    refine ⟨?_, ?_⟩
    ·
      intro y3 x5 hx5 hN
      have hok : (0 ≤ θ.1 ∧ θ.1 ≤ 8) ∧ (0 ≤ θ.2.1 ∧ θ.2.1 ≤ 16) ∧ (-2147483648 ≤ θ.2.2.2.1 ∧ θ.2.2.2.1 < 2147483648) ∧ (0 ≤ θ.2.2.2.2 ∧ θ.2.2.2.2 ≤ 8) := hT.1
      refine w_ldI e15_5 (fun _ => rfl) rfl ?_
      refine w_ldA e15_7 (fun _ => rfl) rfl ?_
      obtain ⟨hn3, e2⟩ := tc_places hT
      refine w_get e15_8 e2 rfl ?_
      refine w_ic e15_11 (by omega) (by omega) (fun (h4 : θ.1 ≤ x5) => ?_) (fun (h4 : x5 < θ.1) => ?_)
      ·
        refine w_ldL e15_59 (fun _ => rfl) rfl ?_
        exact w_rl e15_60 rfl ⟨rfl, _, rfl⟩
      ·
        refine w_ldL e15_14 (fun _ => rfl) rfl ?_
        refine w_ldI e15_15 (fun _ => rfl) rfl ?_
        refine w_cs e15_17 (by decide) (Nat.le_of_ble_eq_true rfl) (Nat.le_of_ble_eq_true rfl) (Nat.le_of_ble_eq_true rfl) (by decide) (by decide) (c73 hT (by omega)) (fun o5 v6 hq7 => ?_)
        obtain ⟨rfl, q9, h10, rfl⟩ := hq7
        refine w_stI (j := 6) (A1 := [some (.ref 2), some (.long l_1), none, some (.long y3), none, some (.int (vz x5)), some (.int (vz q9)), none]) e15_20 (fun _ => rfl) (by decide) rfl ?_
        refine w_kI e15_22 ?_
        refine w_stI (j := 7) (A1 := [some (.ref 2), some (.long l_1), none, some (.long y3), none, some (.int (vz x5)), some (.int (vz q9)), some (.int (vz 0))]) e15_23 (fun _ => rfl) (by decide) rfl ?_
        exact w_sub (A1 := [some (.ref 2), some (.long l_1), none, some (.long y3), none, some (.int (vz x5)), some (.int (vz q9)), some (.int (vz 0))]) (And.intro rfl (And.intro rfl (And.intro rfl (And.intro rfl (And.intro rfl (And.intro rfl trivial)))))) ((ih.2) y3 x5 q9 0 (by omega) h10 (by omega) (by omega) (by omega))
    ·
      intro y3 x5 x6 x7 hx5 hx6 hx7 hi0 hN
      have hok : (0 ≤ θ.1 ∧ θ.1 ≤ 8) ∧ (0 ≤ θ.2.1 ∧ θ.2.1 ≤ 16) ∧ (-2147483648 ≤ θ.2.2.2.1 ∧ θ.2.2.2.1 < 2147483648) ∧ (0 ≤ θ.2.2.2.2 ∧ θ.2.2.2.2 ≤ 8) := hT.1
      refine w_ldI e15_25 (fun _ => rfl) rfl ?_
      refine w_ldI e15_27 (fun _ => rfl) rfl ?_
      refine w_ic e15_29 (by omega) hx6 (fun (h11 : x6 ≤ x7) => ?_) (fun (h11 : x7 < x6) => ?_)
      ·
        refine w_iinc (A1 := [some (.ref 2), some (.long l_1), none, some (.long y3), none, some (.int (vz (x5 + 1))), some (.int (vz x6)), some (.int (vz x7))]) e15_53 rfl (by decide) rfl ?_
        refine w_x e15_56 (fun _ => rfl) ?_
        exact w_sub (A1 := [some (.ref 2), some (.long l_1), none, some (.long y3), none, some (.int (vz (x5 + 1))), none, none]) (And.intro rfl (And.intro rfl (And.intro rfl (And.intro rfl trivial)))) ((ih.1) y3 (x5 + 1) (by omega) (by omega))
      ·
        refine w_ldL e15_32 (fun _ => rfl) rfl ?_
        refine w_ldA e15_33 (fun _ => rfl) rfl ?_
        obtain ⟨hn13, e12⟩ := tc_places hT
        refine w_get e15_34 e12 rfl ?_
        refine w_ldA e15_37 (fun _ => rfl) rfl ?_
        refine w_get e15_38 e12 rfl ?_
        refine w_ldI e15_41 (fun _ => rfl) rfl ?_
        obtain ⟨f15, hf16, e14⟩ := tc_vars hT
        refine w_aldF e15_43 e14 (by omega) (by omega) (by decide) hf16 (fun q17 (h18 : 0 ≤ q17 ∧ q17 < 8) => ?_)
        obtain ⟨f20, e19⟩ := tc_point hT
        refine w_lldO e15_44 e19 (by omega) (by omega) (by decide) (fun l21 => ?_)
        refine w_oL e15_45 (fun _ => rfl) (fun l22 => ?_)
        refine w_stL (j := 3) (A1 := [some (.ref 2), some (.long l_1), none, some (.long l22), none, some (.int (vz x5)), some (.int (vz x6)), some (.int (vz x7))]) e15_46 (fun _ => rfl) (by decide) rfl ?_
        refine w_iinc (A1 := [some (.ref 2), some (.long l_1), none, some (.long l22), none, some (.int (vz x5)), some (.int (vz x6)), some (.int (vz (x7 + 1)))]) e15_47 rfl (by decide) rfl ?_
        refine w_x e15_50 (fun _ => rfl) ?_
        exact w_sub (A1 := [some (.ref 2), some (.long l_1), none, some (.long l22), none, some (.int (vz x5)), some (.int (vz x6)), some (.int (vz (x7 + 1)))]) (And.intro rfl (And.intro rfl (And.intro rfl (And.intro rfl (And.intro rfl (And.intro rfl trivial)))))) ((ih.2) l22 x5 x6 (x7 + 1) (by omega) hx6 (by omega) (by omega) (by omega))
set_option maxRecDepth 100000 in
set_option maxHeartbeats 4000000 in
theorem c15 {θ : tc_S} {v0 : (Bool × Bool) × vm_H} {vh : vm_H} (hT : tc θ v0 vh) {l_1 : Int64} : vm_Rp 1 22 15 [.ref 2, .long l_1] vh (fun r v1 => vh = v1 ∧ ∃ q : Int64, r = some (.long q)) := by
  have hok : (0 ≤ θ.1 ∧ θ.1 ≤ 8) ∧ (0 ≤ θ.2.1 ∧ θ.2.1 ≤ 16) ∧ (-2147483648 ≤ θ.2.2.2.1 ∧ θ.2.2.2.1 < 2147483648) ∧ (0 ≤ θ.2.2.2.2 ∧ θ.2.2.2.2 ≤ 8) := hT.1
  refine w_in (m := 5) ?_
  show vm_Wp _ _ _ 0 [some (.ref 2), some (.long l_1), none, none, none, none, none, none] [] _ _
  refine w_oL e15_0 (fun _ => rfl) (fun l1 => ?_)
  refine w_stL (j := 3) (A1 := [some (.ref 2), some (.long l_1), none, some (.long l1), none, none, none, none]) e15_1 (fun _ => rfl) (by decide) rfl ?_
  refine w_kI e15_2 ?_
  refine w_stI (j := 5) (A1 := [some (.ref 2), some (.long l_1), none, some (.long l1), none, some (.int (vz 0)), none, none]) e15_3 (fun _ => rfl) (by decide) rfl ?_
  exact w_sub (A1 := [some (.ref 2), some (.long l_1), none, some (.long l1), none, some (.int (vz 0)), none, none]) (And.intro rfl (And.intro rfl (And.intro rfl (And.intro rfl trivial)))) (((c15_L (θ := θ) (l_1 := l_1) (v0 := v0) (vh := vh) hT _).1) l1 0 (by omega) (Nat.lt_succ_self _))
set_option maxRecDepth 100000 in
set_option maxHeartbeats 4000000 in
theorem c13_L {θ : tc_S} {v0 : (Bool × Bool) × vm_H} {vh : vm_H} (hT : tc θ v0 vh) {a1 : Nat} (ha1 : ty a1 = 1) : ∀ N : Nat, (∀ (y2 : Int64) (x4 : Int), (0 ≤ x4 ∧ x4 ≤ 60) → ((60 - x4 : Int).toNat < N) → vm_Wp 2 49 13 5 [some (.ref 2), some (.ref a1), some (.long y2), none, some (.int (vz x4))] [] vh (vq_P 13 (fun r v1 => vh = v1 ∧ ∃ q : Int64, r = some (.long q)))) := by
  intro N
  induction N with
  | zero => exact (by intros; omega)
  | succ N ih =>
    ·
      intro y2 x4 hx4 hN
      have hok : (0 ≤ θ.1 ∧ θ.1 ≤ 8) ∧ (0 ≤ θ.2.1 ∧ θ.2.1 ≤ 16) ∧ (-2147483648 ≤ θ.2.2.2.1 ∧ θ.2.2.2.1 < 2147483648) ∧ (0 ≤ θ.2.2.2.2 ∧ θ.2.2.2.2 ≤ 8) := hT.1
      refine w_ldI e13_5 (fun _ => rfl) rfl ?_
      refine w_ldA e13_7 (fun _ => rfl) rfl ?_
      obtain ⟨c3, hc4, e2⟩ := tc_poly hT ha1
      refine w_get e13_8 e2 rfl ?_
      refine w_ic e13_11 (by omega) (by omega) (fun (h5 : c3 ≤ x4) => ?_) (fun (h5 : x4 < c3) => ?_)
      ·
        refine w_ldL e13_42 (fun _ => rfl) rfl ?_
        exact w_rl e13_43 rfl ⟨rfl, _, rfl⟩
      ·
        refine w_ldL e13_14 (fun _ => rfl) rfl ?_
        refine w_ldA e13_15 (fun _ => rfl) rfl ?_
        refine w_get e13_16 e2 rfl ?_
        refine w_ldI e13_19 (fun _ => rfl) rfl ?_
        obtain ⟨f7, e6⟩ := tc_l60 hT (ty_p ha1).2
        refine w_lldO e13_21 e6 (by omega) (by omega) (by decide) (fun l8 => ?_)
        refine w_ldA e13_22 (fun _ => rfl) rfl ?_
        refine w_ldA e13_23 (fun _ => rfl) rfl ?_
        refine w_get e13_24 e2 rfl ?_
        refine w_ldI e13_27 (fun _ => rfl) rfl ?_
        obtain ⟨f10, e9⟩ := tc_l60 hT (ty_p ha1).1
        refine w_lldO e13_29 e9 (by omega) (by omega) (by decide) (fun l11 => ?_)
        obtain ⟨hn13, e12⟩ := tc_places hT
        refine w_cv e13_30 (by decide) rfl e12 rfl (Nat.le_of_ble_eq_true rfl) (Nat.le_of_ble_eq_true rfl) (Nat.le_of_ble_eq_true rfl) (by decide) (by decide) (c15 hT) (fun o14 v15 hq16 => ?_)
        obtain ⟨rfl, l18, rfl⟩ := hq16
        refine w_oL e13_33 (fun _ => rfl) (fun l19 => ?_)
        refine w_oL e13_34 (fun _ => rfl) (fun l20 => ?_)
        refine w_stL (j := 2) (A1 := [some (.ref 2), some (.ref a1), some (.long l20), none, some (.int (vz x4))]) e13_35 (fun _ => rfl) (by decide) rfl ?_
        refine w_iinc (A1 := [some (.ref 2), some (.ref a1), some (.long l20), none, some (.int (vz (x4 + 1)))]) e13_36 rfl (by decide) rfl ?_
        refine w_x e13_39 (fun _ => rfl) ?_
        exact w_sub (A1 := [some (.ref 2), some (.ref a1), some (.long l20), none, some (.int (vz (x4 + 1)))]) (And.intro rfl (And.intro rfl (And.intro rfl (And.intro rfl trivial)))) ((ih) l20 (x4 + 1) (by omega) (by omega))
set_option maxRecDepth 100000 in
set_option maxHeartbeats 4000000 in
theorem c13 {θ : tc_S} {v0 : (Bool × Bool) × vm_H} {vh : vm_H} (hT : tc θ v0 vh) {a1 : Nat} (ha1 : ty a1 = 1) : vm_Rp 2 49 13 [.ref 2, .ref a1] vh (fun r v1 => vh = v1 ∧ ∃ q : Int64, r = some (.long q)) := by
  have hok : (0 ≤ θ.1 ∧ θ.1 ≤ 8) ∧ (0 ≤ θ.2.1 ∧ θ.2.1 ≤ 16) ∧ (-2147483648 ≤ θ.2.2.2.1 ∧ θ.2.2.2.1 < 2147483648) ∧ (0 ≤ θ.2.2.2.2 ∧ θ.2.2.2.2 ≤ 8) := hT.1
  refine w_in (m := 3) ?_
  show vm_Wp _ _ _ 0 [some (.ref 2), some (.ref a1), none, none, none] [] _ _
  refine w_oL e13_0 (fun _ => rfl) (fun l1 => ?_)
  refine w_stL (j := 2) (A1 := [some (.ref 2), some (.ref a1), some (.long l1), none, none]) e13_1 (fun _ => rfl) (by decide) rfl ?_
  refine w_kI e13_2 ?_
  refine w_stI (j := 4) (A1 := [some (.ref 2), some (.ref a1), some (.long l1), none, some (.int (vz 0))]) e13_3 (fun _ => rfl) (by decide) rfl ?_
  exact w_sub (A1 := [some (.ref 2), some (.ref a1), some (.long l1), none, some (.int (vz 0))]) (And.intro rfl (And.intro rfl (And.intro rfl (And.intro rfl trivial)))) (((c13_L (θ := θ) (a1 := a1) (v0 := v0) (vh := vh) hT ha1 _)) l1 0 (by omega) (Nat.lt_succ_self _))
set_option maxRecDepth 100000 in
set_option maxHeartbeats 4000000 in
theorem c14_L {θ : tc_S} {v0 : (Bool × Bool) × vm_H} {vh : vm_H} (hT : tc θ v0 vh) {a1 : Nat} (ha1 : ty a1 = 1) {i2 : Int} (hi_2 : -2147483648 ≤ i2 ∧ i2 < 2147483648) {i3 : Int} (hi_3 : -2147483648 ≤ i3 ∧ i3 < 2147483648) {i4 : Int} (hi_4 : -2147483648 ≤ i4 ∧ i4 < 2147483648) : ∀ N : Nat, (∀ (y5 : Int64) (y7 : Int64) (x9 : Int), (0 ≤ x9 ∧ x9 ≤ 60) → ((60 - x9 : Int).toNat < N) → vm_Wp 2 49 14 16 [some (.ref 2), some (.ref a1), some (.int (vz i2)), some (.int (vz i3)), some (.int (vz i4)), some (.long y5), none, some (.long y7), none, some (.int (vz x9))] [] vh (vq_P 14 (fun r v1 => vh = v1 ∧ ∃ q : Int64, r = some (.long q)))) := by
  intro N
  induction N with
  | zero => exact (by intros; omega)
  | succ N ih =>
    ·
      intro y5 y7 x9 hx9 hN
      have hok : (0 ≤ θ.1 ∧ θ.1 ≤ 8) ∧ (0 ≤ θ.2.1 ∧ θ.2.1 ≤ 16) ∧ (-2147483648 ≤ θ.2.2.2.1 ∧ θ.2.2.2.1 < 2147483648) ∧ (0 ≤ θ.2.2.2.2 ∧ θ.2.2.2.2 ≤ 8) := hT.1
      refine w_ldI e14_16 (fun _ => rfl) rfl ?_
      refine w_ldA e14_18 (fun _ => rfl) rfl ?_
      obtain ⟨c5, hc6, e4⟩ := tc_poly hT ha1
      refine w_get e14_19 e4 rfl ?_
      refine w_ic e14_22 (by omega) (by omega) (fun (h7 : c5 ≤ x9) => ?_) (fun (h7 : x9 < c5) => ?_)
      ·
        refine w_ldL e14_73 (fun _ => rfl) rfl ?_
        exact w_rl e14_75 rfl ⟨rfl, _, rfl⟩
      ·
        refine w_ldA e14_25 (fun _ => rfl) rfl ?_
        refine w_get e14_26 e4 rfl ?_
        refine w_ldI e14_29 (fun _ => rfl) rfl ?_
        obtain ⟨f9, e8⟩ := tc_l60 hT (ty_p ha1).1
        refine w_lldO e14_31 e8 (by omega) (by omega) (by decide) (fun l10 => ?_)
        refine w_ldI e14_32 (fun _ => rfl) rfl ?_
        refine w_cs e14_33 (by decide) (Nat.le_of_ble_eq_true rfl) (Nat.le_of_ble_eq_true rfl) (Nat.le_of_ble_eq_true rfl) (by decide) (by decide) (c73 hT hi_2) (fun o11 v12 hq13 => ?_)
        obtain ⟨rfl, q15, h16, rfl⟩ := hq13
        refine w_ldI e14_36 (fun _ => rfl) rfl ?_
        refine w_ic e14_37 h16 hi_3 (fun (h17 : q15 ≠ i3) => ?_) (fun (h17 : q15 = i3) => ?_)
        ·
          refine w_iinc (A1 := [some (.ref 2), some (.ref a1), some (.int (vz i2)), some (.int (vz i3)), some (.int (vz i4)), some (.long y5), none, some (.long y7), none, some (.int (vz (x9 + 1)))]) e14_67 rfl (by decide) rfl ?_
          refine w_x e14_70 (fun _ => rfl) ?_
          exact w_sub (A1 := [some (.ref 2), some (.ref a1), some (.int (vz i2)), some (.int (vz i3)), some (.int (vz i4)), some (.long y5), none, some (.long y7), none, some (.int (vz (x9 + 1)))]) (And.intro rfl (And.intro rfl (And.intro rfl (And.intro rfl (And.intro rfl (And.intro rfl (And.intro rfl (And.intro rfl trivial)))))))) ((ih) y5 y7 (x9 + 1) (by omega) (by omega))
        ·
          refine w_ldL e14_40 (fun _ => rfl) rfl ?_
          refine w_ldA e14_42 (fun _ => rfl) rfl ?_
          refine w_get e14_43 e4 rfl ?_
          refine w_ldI e14_46 (fun _ => rfl) rfl ?_
          obtain ⟨f19, e18⟩ := tc_l60 hT (ty_p ha1).2
          refine w_lldO e14_48 e18 (by omega) (by omega) (by decide) (fun l20 => ?_)
          refine w_ldA e14_49 (fun _ => rfl) rfl ?_
          refine w_ldA e14_50 (fun _ => rfl) rfl ?_
          refine w_get e14_51 e4 rfl ?_
          refine w_ldI e14_54 (fun _ => rfl) rfl ?_
          refine w_lldO e14_56 e8 (by omega) (by omega) (by decide) (fun l21 => ?_)
          refine w_ldL e14_57 (fun _ => rfl) rfl ?_
          refine w_oL e14_59 (fun _ => rfl) (fun l22 => ?_)
          obtain ⟨hn24, e23⟩ := tc_places hT
          refine w_cv e14_60 (by decide) rfl e23 rfl (Nat.le_of_ble_eq_true rfl) (Nat.le_of_ble_eq_true rfl) (Nat.le_of_ble_eq_true rfl) (by decide) (by decide) (c15 hT) (fun o25 v26 hq27 => ?_)
          obtain ⟨rfl, l29, rfl⟩ := hq27
          refine w_oL e14_63 (fun _ => rfl) (fun l30 => ?_)
          refine w_oL e14_64 (fun _ => rfl) (fun l31 => ?_)
          refine w_stL (j := 7) (A1 := [some (.ref 2), some (.ref a1), some (.int (vz i2)), some (.int (vz i3)), some (.int (vz i4)), some (.long y5), none, some (.long l31), none, some (.int (vz x9))]) e14_65 (fun _ => rfl) (by decide) rfl ?_
          refine w_iinc (A1 := [some (.ref 2), some (.ref a1), some (.int (vz i2)), some (.int (vz i3)), some (.int (vz i4)), some (.long y5), none, some (.long l31), none, some (.int (vz (x9 + 1)))]) e14_67 rfl (by decide) rfl ?_
          refine w_x e14_70 (fun _ => rfl) ?_
          exact w_sub (A1 := [some (.ref 2), some (.ref a1), some (.int (vz i2)), some (.int (vz i3)), some (.int (vz i4)), some (.long y5), none, some (.long l31), none, some (.int (vz (x9 + 1)))]) (And.intro rfl (And.intro rfl (And.intro rfl (And.intro rfl (And.intro rfl (And.intro rfl (And.intro rfl (And.intro rfl trivial)))))))) ((ih) y5 l31 (x9 + 1) (by omega) (by omega))
set_option maxRecDepth 100000 in
set_option maxHeartbeats 4000000 in
theorem c14 {θ : tc_S} {v0 : (Bool × Bool) × vm_H} {vh : vm_H} (hT : tc θ v0 vh) {a1 : Nat} (ha1 : ty a1 = 1) {i2 : Int} (hi_2 : -2147483648 ≤ i2 ∧ i2 < 2147483648) {i3 : Int} (hi_3 : -2147483648 ≤ i3 ∧ i3 < 2147483648) {i4 : Int} (hi_4 : -2147483648 ≤ i4 ∧ i4 < 2147483648) : vm_Rp 2 49 14 [.ref 2, .ref a1, .int (vz i2), .int (vz i3), .int (vz i4)] vh (fun r v1 => vh = v1 ∧ ∃ q : Int64, r = some (.long q)) := by
  have hok : (0 ≤ θ.1 ∧ θ.1 ≤ 8) ∧ (0 ≤ θ.2.1 ∧ θ.2.1 ≤ 16) ∧ (-2147483648 ≤ θ.2.2.2.1 ∧ θ.2.2.2.1 < 2147483648) ∧ (0 ≤ θ.2.2.2.2 ∧ θ.2.2.2.2 ≤ 8) := hT.1
  refine w_in (m := 5) ?_
  show vm_Wp _ _ _ 0 [some (.ref 2), some (.ref a1), some (.int (vz i2)), some (.int (vz i3)), some (.int (vz i4)), none, none, none, none, none] [] _ _
  refine w_ldI e14_0 (fun _ => rfl) rfl ?_
  refine w_oL e14_2 (fun _ => rfl) (fun l1 => ?_)
  refine w_kB e14_3 rfl ?_
  refine w_ldI e14_5 (fun _ => rfl) rfl ?_
  refine w_imul e14_6 ?_
  refine w_oL e14_7 (fun _ => rfl) (fun l2 => ?_)
  refine w_stL (j := 5) (A1 := [some (.ref 2), some (.ref a1), some (.int (vz i2)), some (.int (vz i3)), some (.int (vz i4)), some (.long l2), none, none, none, none]) e14_8 (fun _ => rfl) (by decide) rfl ?_
  refine w_oL e14_10 (fun _ => rfl) (fun l3 => ?_)
  refine w_stL (j := 7) (A1 := [some (.ref 2), some (.ref a1), some (.int (vz i2)), some (.int (vz i3)), some (.int (vz i4)), some (.long l2), none, some (.long l3), none, none]) e14_11 (fun _ => rfl) (by decide) rfl ?_
  refine w_kI e14_13 ?_
  refine w_stI (j := 9) (A1 := [some (.ref 2), some (.ref a1), some (.int (vz i2)), some (.int (vz i3)), some (.int (vz i4)), some (.long l2), none, some (.long l3), none, some (.int (vz 0))]) e14_14 (fun _ => rfl) (by decide) rfl ?_
  exact w_sub (A1 := [some (.ref 2), some (.ref a1), some (.int (vz i2)), some (.int (vz i3)), some (.int (vz i4)), some (.long l2), none, some (.long l3), none, some (.int (vz 0))]) (And.intro rfl (And.intro rfl (And.intro rfl (And.intro rfl (And.intro rfl (And.intro rfl (And.intro rfl (And.intro rfl trivial)))))))) (((c14_L (θ := θ) (a1 := a1) (i2 := i2) (i3 := i3) (i4 := i4) (v0 := v0) (vh := vh) hT ha1 hi_2 hi_3 hi_4 _)) l2 l3 0 (by omega) (Nat.lt_succ_self _))
set_option maxRecDepth 100000 in
set_option maxHeartbeats 4000000 in
theorem c12_L {θ : tc_S} {v0 : (Bool × Bool) × vm_H} {vh : vm_H} (hT : tc θ v0 vh) {a1 : Nat} (ha1 : ty a1 = 1) : ∀ N : Nat, (∀ (x2 : Int), (-1 ≤ x2 ∧ x2 ≤ 7) → ((x2 + 1 : Int).toNat < N) → vm_Wp 2 53 12 7 [some (.ref 2), some (.ref a1), some (.int (vz x2))] [] vh (vq_P 12 (fun r v1 => vh = v1 ∧ ∃ q : Int, (-1 ≤ q ∧ q < 8) ∧ r = some (.int (vz q))))) := by
  intro N
  induction N with
  | zero => exact (by intros; omega)
  | succ N ih =>
    ·
      intro x2 hx2 hN
      have hok : (0 ≤ θ.1 ∧ θ.1 ≤ 8) ∧ (0 ≤ θ.2.1 ∧ θ.2.1 ≤ 16) ∧ (-2147483648 ≤ θ.2.2.2.1 ∧ θ.2.2.2.1 < 2147483648) ∧ (0 ≤ θ.2.2.2.2 ∧ θ.2.2.2.2 ≤ 8) := hT.1
      refine w_ldI e12_7 (fun _ => rfl) rfl ?_
      refine w_if e12_8 (by omega) (fun (h3 : x2 < 0) => ?_) (fun (h3 : 0 ≤ x2) => ?_)
      ·
        refine w_kI e12_41 ?_
        exact w_ri e12_42 rfl ⟨rfl, -1, (by omega), rfl⟩
      ·
        refine w_ldA e12_11 (fun _ => rfl) rfl ?_
        obtain ⟨hn5, e4⟩ := tc_places hT
        refine w_get e12_12 e4 rfl ?_
        refine w_ldA e12_15 (fun _ => rfl) rfl ?_
        refine w_get e12_16 e4 rfl ?_
        refine w_ldI e12_19 (fun _ => rfl) rfl ?_
        obtain ⟨f7, hf8, e6⟩ := tc_vars hT
        refine w_aldF e12_20 e6 (by omega) (by omega) (by decide) hf8 (fun q9 (h10 : 0 ≤ q9 ∧ q9 < 8) => ?_)
        obtain ⟨f12, e11⟩ := tc_free hT
        refine w_zldO e12_21 e11 (by omega) (by omega) (by decide) (fun q13 h14 h15 => ?_)
        refine w_if e12_22 h14 (fun (h16 : q13 ≠ 0) => ?_) (fun (h16 : q13 = 0) => ?_)
        ·
          refine w_iinc (A1 := [some (.ref 2), some (.ref a1), some (.int (vz (x2 + (-1))))]) e12_35 rfl (by decide) rfl ?_
          refine w_x e12_38 (fun _ => rfl) ?_
          exact w_sub (A1 := [some (.ref 2), some (.ref a1), some (.int (vz (x2 + (-1))))]) (And.intro rfl (And.intro rfl (And.intro rfl trivial))) ((ih) (x2 + (-1)) (by omega) (by omega))
        ·
          refine w_ldA e12_25 (fun _ => rfl) rfl ?_
          refine w_ldI e12_26 (fun _ => rfl) rfl ?_
          obtain ⟨c18, hc19, e17⟩ := tc_poly hT ha1
          refine w_cv e12_27 (by decide) rfl e17 rfl (Nat.le_of_ble_eq_true rfl) (Nat.le_of_ble_eq_true rfl) (Nat.le_of_ble_eq_true rfl) (by decide) (by decide) (c22 hT ha1 (by omega)) (fun o20 v21 hq22 => ?_)
          obtain ⟨rfl, q24, h25, rfl⟩ := hq22
          refine w_if e12_30 h25 (fun (h26 : q24 ≤ 0) => ?_) (fun (h26 : 0 < q24) => ?_)
          ·
            refine w_iinc (A1 := [some (.ref 2), some (.ref a1), some (.int (vz (x2 + (-1))))]) e12_35 rfl (by decide) rfl ?_
            refine w_x e12_38 (fun _ => rfl) ?_
            exact w_sub (A1 := [some (.ref 2), some (.ref a1), some (.int (vz (x2 + (-1))))]) (And.intro rfl (And.intro rfl (And.intro rfl trivial))) ((ih) (x2 + (-1)) (by omega) (by omega))
          ·
            refine w_ldI e12_33 (fun _ => rfl) rfl ?_
            exact w_ri e12_34 rfl ⟨rfl, x2, (by omega), rfl⟩
set_option maxRecDepth 100000 in
set_option maxHeartbeats 4000000 in
theorem c12 {θ : tc_S} {v0 : (Bool × Bool) × vm_H} {vh : vm_H} (hT : tc θ v0 vh) {a1 : Nat} (ha1 : ty a1 = 1) : vm_Rp 2 53 12 [.ref 2, .ref a1] vh (fun r v1 => vh = v1 ∧ ∃ q : Int, (-1 ≤ q ∧ q < 8) ∧ r = some (.int (vz q))) := by
  have hok : (0 ≤ θ.1 ∧ θ.1 ≤ 8) ∧ (0 ≤ θ.2.1 ∧ θ.2.1 ≤ 16) ∧ (-2147483648 ≤ θ.2.2.2.1 ∧ θ.2.2.2.1 < 2147483648) ∧ (0 ≤ θ.2.2.2.2 ∧ θ.2.2.2.2 ≤ 8) := hT.1
  refine w_in (m := 1) ?_
  show vm_Wp _ _ _ 0 [some (.ref 2), some (.ref a1), none] [] _ _
  refine w_ldA e12_0 (fun _ => rfl) rfl ?_
  obtain ⟨hn2, e1⟩ := tc_places hT
  refine w_get e12_1 e1 rfl ?_
  refine w_kI e12_4 ?_
  refine w_isub e12_5 ?_
  refine w_stI (j := 2) (A1 := [some (.ref 2), some (.ref a1), some (.int (vz (θ.1 - 1)))]) e12_6 (fun _ => rfl) (by decide) rfl ?_
  exact w_sub (A1 := [some (.ref 2), some (.ref a1), some (.int (vz (θ.1 - 1)))]) (And.intro rfl (And.intro rfl (And.intro rfl trivial))) (((c12_L (θ := θ) (a1 := a1) (v0 := v0) (vh := vh) hT ha1 _)) (θ.1 - 1) (by omega) (Nat.lt_succ_self _))
set_option maxRecDepth 100000 in
set_option maxHeartbeats 4000000 in
theorem c27_L {θ : tc_S} {v0 : (Bool × Bool) × vm_H} {a0 : Nat} (ha0 : ty a0 = 1) (hw0 : wok v0 a0) : ∀ N : Nat, (∀ (vh : vm_H) (x1 : Int), (tc θ v0 vh) → (1 ≤ x1 ∧ x1 ≤ 60) → (((60 - x1) * 100 + 99 : Int).toNat < N) → vm_Wp 0 0 27 2 [some (.ref a0), some (.int (vz x1)), none, none, none, none, none] [] vh (vq_P 27 (fun r v1 => (tc θ v0 v1) ∧ r = none))) ∧ (∀ (vh : vm_H) (x1 : Int) (y2 : Int64) (y4 : Int64) (x6 : Int), (tc θ v0 vh) → (1 ≤ x1 ∧ x1 ≤ 59) → (0 ≤ x6 ∧ x6 ≤ 59) → (((60 - x1) * 100 + x6 : Int).toNat < N) → vm_Wp 0 0 27 28 [some (.ref a0), some (.int (vz x1)), some (.long y2), none, some (.long y4), none, some (.int (vz x6))] [] vh (vq_P 27 (fun r v1 => (tc θ v0 v1) ∧ r = none))) := by
  intro N
  induction N with
  | zero => exact ⟨by intros; omega, by intros; omega⟩
  | succ N ih =>
    refine ⟨?_, ?_⟩
    ·
      intro vh x1 hT hx1 hN
      have hok : (0 ≤ θ.1 ∧ θ.1 ≤ 8) ∧ (0 ≤ θ.2.1 ∧ θ.2.1 ≤ 16) ∧ (-2147483648 ≤ θ.2.2.2.1 ∧ θ.2.2.2.1 < 2147483648) ∧ (0 ≤ θ.2.2.2.2 ∧ θ.2.2.2.2 ≤ 8) := hT.1
      refine w_ldI e27_2 (fun _ => rfl) rfl ?_
      refine w_ldA e27_3 (fun _ => rfl) rfl ?_
      obtain ⟨c2, hc3, e1⟩ := tc_poly hT ha0
      refine w_get e27_4 e1 rfl ?_
      refine w_ic e27_7 (by omega) (by omega) (fun (h4 : c2 ≤ x1) => ?_) (fun (h4 : x1 < c2) => ?_)
      ·
        exact w_rv e27_108 rfl ⟨hT, rfl⟩
      ·
        refine w_ldA e27_10 (fun _ => rfl) rfl ?_
        refine w_get e27_11 e1 rfl ?_
        refine w_ldI e27_14 (fun _ => rfl) rfl ?_
        obtain ⟨f6, e5⟩ := tc_l60 hT (ty_p ha0).1
        refine w_lldO e27_15 e5 (by omega) (by omega) (by decide) (fun l7 => ?_)
        refine w_stL (j := 2) (A1 := [some (.ref a0), some (.int (vz x1)), some (.long l7), none, none, none, none]) e27_16 (fun _ => rfl) (by decide) rfl ?_
        refine w_ldA e27_17 (fun _ => rfl) rfl ?_
        refine w_get e27_18 e1 rfl ?_
        refine w_ldI e27_21 (fun _ => rfl) rfl ?_
        obtain ⟨f9, e8⟩ := tc_l60 hT (ty_p ha0).2
        refine w_lldO e27_22 e8 (by omega) (by omega) (by decide) (fun l10 => ?_)
        refine w_stL (j := 4) (A1 := [some (.ref a0), some (.int (vz x1)), some (.long l7), none, some (.long l10), none, none]) e27_23 (fun _ => rfl) (by decide) rfl ?_
        refine w_ldI e27_25 (fun _ => rfl) rfl ?_
        refine w_stI (j := 6) (A1 := [some (.ref a0), some (.int (vz x1)), some (.long l7), none, some (.long l10), none, some (.int (vz x1))]) e27_26 (fun _ => rfl) (by decide) rfl ?_
        exact w_sub (A1 := [some (.ref a0), some (.int (vz x1)), some (.long l7), none, some (.long l10), none, some (.int (vz x1))]) (And.intro rfl (And.intro rfl (And.intro rfl (And.intro rfl (And.intro rfl trivial))))) ((ih.2) vh x1 l7 l10 x1 hT (by omega) (by omega) (by omega))
    ·
      intro vh x1 y2 y4 x6 hT hx1 hx6 hN
      have hok : (0 ≤ θ.1 ∧ θ.1 ≤ 8) ∧ (0 ≤ θ.2.1 ∧ θ.2.1 ≤ 16) ∧ (-2147483648 ≤ θ.2.2.2.1 ∧ θ.2.2.2.1 < 2147483648) ∧ (0 ≤ θ.2.2.2.2 ∧ θ.2.2.2.2 ≤ 8) := hT.1
      refine w_ldI e27_28 (fun _ => rfl) rfl ?_
      refine w_if e27_30 (by omega) (fun (h11 : x6 ≤ 0) => ?_) (fun (h11 : 0 < x6) => ?_)
      ·
        refine w_ldA e27_85 (fun _ => rfl) rfl ?_
        obtain ⟨c13, hc14, e12⟩ := tc_poly hT ha0
        refine w_get e27_86 e12 rfl ?_
        refine w_ldI e27_89 (fun _ => rfl) rfl ?_
        refine w_ldL e27_91 (fun _ => rfl) rfl ?_
        obtain ⟨f16, e15⟩ := tc_l60 hT (ty_p ha0).1
        refine w_lst e27_92 e15 (by omega) (by omega) (by decide) (fun v19 b17 h18 => ?_)
        have hT20 := ts_l60 hT (ty_p ha0).1 (wok_s hw0) b17 h18
        have e21 := (b17.2 a0 (by omega)).trans e12
        refine w_ldA e27_93 (fun _ => rfl) rfl ?_
        refine w_get e27_94 e21 rfl ?_
        refine w_ldI e27_97 (fun _ => rfl) rfl ?_
        refine w_ldL e27_99 (fun _ => rfl) rfl ?_
        obtain ⟨f23, e22⟩ := tc_l60 hT20 (ty_p ha0).2
        refine w_lst e27_101 e22 (by omega) (by omega) (by decide) (fun v26 b24 h25 => ?_)
        have hT27 := ts_l60 hT20 (ty_p ha0).2 (wok_s hw0) b24 h25
        have e28 := (b24.2 a0 (by omega)).trans e21
        refine w_iinc (A1 := [some (.ref a0), some (.int (vz (x1 + 1))), some (.long y2), none, some (.long y4), none, some (.int (vz x6))]) e27_102 rfl (by decide) rfl ?_
        refine w_x e27_105 (fun _ => rfl) ?_
        exact w_sub (A1 := [some (.ref a0), some (.int (vz (x1 + 1))), none, none, none, none, none]) (And.intro rfl (And.intro rfl trivial)) ((ih.1) v26 (x1 + 1) hT27 (by omega) (by omega))
      ·
        refine w_ldA e27_33 (fun _ => rfl) rfl ?_
        obtain ⟨c30, hc31, e29⟩ := tc_poly hT ha0
        refine w_get e27_34 e29 rfl ?_
        refine w_ldI e27_37 (fun _ => rfl) rfl ?_
        refine w_kI e27_39 ?_
        refine w_isub e27_40 ?_
        obtain ⟨f33, e32⟩ := tc_l60 hT (ty_p ha0).1
        refine w_lldO e27_41 e32 (by omega) (by omega) (by decide) (fun l34 => ?_)
        refine w_ldL e27_42 (fun _ => rfl) rfl ?_
        refine w_lcmp e27_43 (fun q35 (h36 : -1 ≤ q35 ∧ q35 ≤ 1) h37 h38 => ?_)
        refine w_if e27_44 (by omega) (fun (h39 : 0 ≤ q35) => ?_) (fun (h39 : q35 < 0) => ?_)
        ·
          refine w_ldA e27_85 (fun _ => rfl) rfl ?_
          refine w_get e27_86 e29 rfl ?_
          refine w_ldI e27_89 (fun _ => rfl) rfl ?_
          refine w_ldL e27_91 (fun _ => rfl) rfl ?_
          refine w_lst e27_92 e32 (by omega) (by omega) (by decide) (fun v42 b40 h41 => ?_)
          have hT43 := ts_l60 hT (ty_p ha0).1 (wok_s hw0) b40 h41
          have e44 := (b40.2 a0 (by omega)).trans e29
          refine w_ldA e27_93 (fun _ => rfl) rfl ?_
          refine w_get e27_94 e44 rfl ?_
          refine w_ldI e27_97 (fun _ => rfl) rfl ?_
          refine w_ldL e27_99 (fun _ => rfl) rfl ?_
          obtain ⟨f46, e45⟩ := tc_l60 hT43 (ty_p ha0).2
          refine w_lst e27_101 e45 (by omega) (by omega) (by decide) (fun v49 b47 h48 => ?_)
          have hT50 := ts_l60 hT43 (ty_p ha0).2 (wok_s hw0) b47 h48
          have e51 := (b47.2 a0 (by omega)).trans e44
          refine w_iinc (A1 := [some (.ref a0), some (.int (vz (x1 + 1))), some (.long y2), none, some (.long y4), none, some (.int (vz x6))]) e27_102 rfl (by decide) rfl ?_
          refine w_x e27_105 (fun _ => rfl) ?_
          exact w_sub (A1 := [some (.ref a0), some (.int (vz (x1 + 1))), none, none, none, none, none]) (And.intro rfl (And.intro rfl trivial)) ((ih.1) v49 (x1 + 1) hT50 (by omega) (by omega))
        ·
          refine w_ldA e27_47 (fun _ => rfl) rfl ?_
          refine w_get e27_48 e29 rfl ?_
          refine w_ldI e27_51 (fun _ => rfl) rfl ?_
          refine w_ldA e27_53 (fun _ => rfl) rfl ?_
          refine w_get e27_54 e29 rfl ?_
          refine w_ldI e27_57 (fun _ => rfl) rfl ?_
          refine w_kI e27_59 ?_
          refine w_isub e27_60 ?_
          refine w_lldO e27_61 e32 (by omega) (by omega) (by decide) (fun l52 => ?_)
          refine w_lst e27_62 e32 (by omega) (by omega) (by decide) (fun v55 b53 h54 => ?_)
          have hT56 := ts_l60 hT (ty_p ha0).1 (wok_s hw0) b53 h54
          have e57 := (b53.2 a0 (by omega)).trans e29
          refine w_ldA e27_63 (fun _ => rfl) rfl ?_
          refine w_get e27_64 e57 rfl ?_
          refine w_ldI e27_67 (fun _ => rfl) rfl ?_
          refine w_ldA e27_69 (fun _ => rfl) rfl ?_
          refine w_get e27_70 e57 rfl ?_
          refine w_ldI e27_73 (fun _ => rfl) rfl ?_
          refine w_kI e27_75 ?_
          refine w_isub e27_76 ?_
          obtain ⟨f59, e58⟩ := tc_l60 hT56 (ty_p ha0).2
          refine w_lldO e27_77 e58 (by omega) (by omega) (by decide) (fun l60 => ?_)
          refine w_lst e27_78 e58 (by omega) (by omega) (by decide) (fun v63 b61 h62 => ?_)
          have hT64 := ts_l60 hT56 (ty_p ha0).2 (wok_s hw0) b61 h62
          have e65 := (b61.2 a0 (by omega)).trans e57
          refine w_iinc (A1 := [some (.ref a0), some (.int (vz x1)), some (.long y2), none, some (.long y4), none, some (.int (vz (x6 + (-1))))]) e27_79 rfl (by decide) rfl ?_
          refine w_x e27_82 (fun _ => rfl) ?_
          exact w_sub (A1 := [some (.ref a0), some (.int (vz x1)), some (.long y2), none, some (.long y4), none, some (.int (vz (x6 + (-1))))]) (And.intro rfl (And.intro rfl (And.intro rfl (And.intro rfl (And.intro rfl trivial))))) ((ih.2) v63 x1 y2 y4 (x6 + (-1)) hT64 (by omega) (by omega) (by omega))
set_option maxRecDepth 100000 in
set_option maxHeartbeats 4000000 in
theorem c27 {θ : tc_S} {v0 : (Bool × Bool) × vm_H} {vh : vm_H} (hT : tc θ v0 vh) {a0 : Nat} (ha0 : ty a0 = 1) (hw0 : wok v0 a0) : vm_Rp 0 0 27 [.ref a0] vh (fun r v1 => (tc θ v0 v1) ∧ r = none) := by
  have hok : (0 ≤ θ.1 ∧ θ.1 ≤ 8) ∧ (0 ≤ θ.2.1 ∧ θ.2.1 ≤ 16) ∧ (-2147483648 ≤ θ.2.2.2.1 ∧ θ.2.2.2.1 < 2147483648) ∧ (0 ≤ θ.2.2.2.2 ∧ θ.2.2.2.2 ≤ 8) := hT.1
  refine w_in (m := 6) ?_
  show vm_Wp _ _ _ 0 [some (.ref a0), none, none, none, none, none, none] [] _ _
  refine w_kI e27_0 ?_
  refine w_stI (j := 1) (A1 := [some (.ref a0), some (.int (vz 1)), none, none, none, none, none]) e27_1 (fun _ => rfl) (by decide) rfl ?_
  exact w_sub (A1 := [some (.ref a0), some (.int (vz 1)), none, none, none, none, none]) (And.intro rfl (And.intro rfl trivial)) (((c27_L (θ := θ) (a0 := a0) (v0 := v0) ha0 hw0 _).1) vh 1 hT (by omega) (Nat.lt_succ_self _))
set_option maxRecDepth 100000 in
set_option maxHeartbeats 4000000 in
theorem c10_L {θ : tc_S} {v0 : (Bool × Bool) × vm_H} {a1 : Nat} (ha1 : ty a1 = 1) (hw1 : wok v0 a1) : ∀ N : Nat, (∀ (vh : vm_H) (x2 : Int), (tc θ v0 vh) → (0 ≤ x2 ∧ x2 ≤ 60) → ((60 - x2 : Int).toNat < N) → vm_Wp 2 46 10 2 [some (.ref 2), some (.ref a1), some (.int (vz x2))] [] vh (vq_P 10 (fun r v1 => (tc θ v0 v1) ∧ r = none))) := by
  intro N
  induction N with
  | zero => exact (by intros; omega)
  | succ N ih =>
    ·
      intro vh x2 hT hx2 hN
      have hok : (0 ≤ θ.1 ∧ θ.1 ≤ 8) ∧ (0 ≤ θ.2.1 ∧ θ.2.1 ≤ 16) ∧ (-2147483648 ≤ θ.2.2.2.1 ∧ θ.2.2.2.1 < 2147483648) ∧ (0 ≤ θ.2.2.2.2 ∧ θ.2.2.2.2 ≤ 8) := hT.1
      refine w_ldI e10_2 (fun _ => rfl) rfl ?_
      refine w_ldA e10_3 (fun _ => rfl) rfl ?_
      obtain ⟨c2, hc3, e1⟩ := tc_poly hT ha1
      refine w_get e10_4 e1 rfl ?_
      refine w_ic e10_7 (by omega) (by omega) (fun (h4 : c2 ≤ x2) => ?_) (fun (h4 : x2 < c2) => ?_)
      ·
        exact w_rv e10_33 rfl ⟨hT, rfl⟩
      ·
        refine w_ldA e10_10 (fun _ => rfl) rfl ?_
        refine w_get e10_11 e1 rfl ?_
        refine w_ldI e10_14 (fun _ => rfl) rfl ?_
        refine w_ldA e10_15 (fun _ => rfl) rfl ?_
        refine w_ldA e10_16 (fun _ => rfl) rfl ?_
        refine w_get e10_17 e1 rfl ?_
        refine w_ldI e10_20 (fun _ => rfl) rfl ?_
        obtain ⟨f6, e5⟩ := tc_l60 hT (ty_p ha1).1
        refine w_lldO e10_21 e5 (by omega) (by omega) (by decide) (fun l7 => ?_)
        obtain ⟨hn9, e8⟩ := tc_places hT
        refine w_cv e10_22 (by decide) rfl e8 rfl (Nat.le_of_ble_eq_true rfl) (Nat.le_of_ble_eq_true rfl) (Nat.le_of_ble_eq_true rfl) (by decide) (by decide) (c9 hT) (fun o10 v11 hq12 => ?_)
        obtain ⟨rfl, q14, h15, rfl⟩ := hq12
        refine w_oL e10_25 (fun _ => rfl) (fun l16 => ?_)
        refine w_lst e10_26 e5 (by omega) (by omega) (by decide) (fun v19 b17 h18 => ?_)
        have hT20 := ts_l60 hT (ty_p ha1).1 (wok_s hw1) b17 h18
        have e21 := (b17.2 a1 (by omega)).trans e1
        have e22 := (b17.2 2 (ty_ne (rfl : ty 2 = 4) (ty_p ha1).1 (by decide))).trans e8
        refine w_iinc (A1 := [some (.ref 2), some (.ref a1), some (.int (vz (x2 + 1)))]) e10_27 rfl (by decide) rfl ?_
        refine w_x e10_30 (fun _ => rfl) ?_
        exact w_sub (A1 := [some (.ref 2), some (.ref a1), some (.int (vz (x2 + 1)))]) (And.intro rfl (And.intro rfl (And.intro rfl trivial))) ((ih) v19 (x2 + 1) hT20 (by omega) (by omega))
set_option maxRecDepth 100000 in
set_option maxHeartbeats 4000000 in
theorem c10 {θ : tc_S} {v0 : (Bool × Bool) × vm_H} {vh : vm_H} (hT : tc θ v0 vh) {a1 : Nat} (ha1 : ty a1 = 1) (hw1 : wok v0 a1) : vm_Rp 2 46 10 [.ref 2, .ref a1] vh (fun r v1 => (tc θ v0 v1) ∧ r = none) := by
  have hok : (0 ≤ θ.1 ∧ θ.1 ≤ 8) ∧ (0 ≤ θ.2.1 ∧ θ.2.1 ≤ 16) ∧ (-2147483648 ≤ θ.2.2.2.1 ∧ θ.2.2.2.1 < 2147483648) ∧ (0 ≤ θ.2.2.2.2 ∧ θ.2.2.2.2 ≤ 8) := hT.1
  refine w_in (m := 1) ?_
  show vm_Wp _ _ _ 0 [some (.ref 2), some (.ref a1), none] [] _ _
  refine w_kI e10_0 ?_
  refine w_stI (j := 2) (A1 := [some (.ref 2), some (.ref a1), some (.int (vz 0))]) e10_1 (fun _ => rfl) (by decide) rfl ?_
  exact w_sub (A1 := [some (.ref 2), some (.ref a1), some (.int (vz 0))]) (And.intro rfl (And.intro rfl (And.intro rfl trivial))) (((c10_L (θ := θ) (a1 := a1) (v0 := v0) ha1 hw1 _)) vh 0 hT (by omega) (Nat.lt_succ_self _))
set_option maxRecDepth 100000 in
set_option maxHeartbeats 4000000 in
theorem c11_L {θ : tc_S} {v0 : (Bool × Bool) × vm_H} {a1 : Nat} (ha1 : ty a1 = 1) (hw1 : wok v0 a1) : ∀ N : Nat, (∀ (vh : vm_H) (x2 : Int), (tc θ v0 vh) → (0 ≤ x2 ∧ x2 ≤ 60) → ((60 - x2 : Int).toNat < N) → vm_Wp 1 26 11 2 [some (.ref 2), some (.ref a1), some (.int (vz x2))] [] vh (vq_P 11 (fun r v1 => (tc θ v0 v1) ∧ r = none))) := by
  intro N
  induction N with
  | zero => exact (by intros; omega)
  | succ N ih =>
    ·
      intro vh x2 hT hx2 hN
      have hok : (0 ≤ θ.1 ∧ θ.1 ≤ 8) ∧ (0 ≤ θ.2.1 ∧ θ.2.1 ≤ 16) ∧ (-2147483648 ≤ θ.2.2.2.1 ∧ θ.2.2.2.1 < 2147483648) ∧ (0 ≤ θ.2.2.2.2 ∧ θ.2.2.2.2 ≤ 8) := hT.1
      refine w_ldI e11_2 (fun _ => rfl) rfl ?_
      refine w_ldA e11_3 (fun _ => rfl) rfl ?_
      obtain ⟨c2, hc3, e1⟩ := tc_poly hT ha1
      refine w_get e11_4 e1 rfl ?_
      refine w_ic e11_7 (by omega) (by omega) (fun (h4 : c2 ≤ x2) => ?_) (fun (h4 : x2 < c2) => ?_)
      ·
        refine w_ldA e11_33 (fun _ => rfl) rfl ?_
        refine w_cv e11_34 (by decide) rfl e1 rfl (Nat.le_of_ble_eq_true rfl) (Nat.le_of_ble_eq_true rfl) (Nat.le_of_ble_eq_true rfl) (by decide) (by decide) (c27 hT ha1 hw1) (fun o5 v6 hq7 => ?_)
        obtain ⟨hT8, rfl⟩ := hq7
        exact w_rv e11_37 rfl ⟨hT8, rfl⟩
      ·
        refine w_ldA e11_10 (fun _ => rfl) rfl ?_
        refine w_get e11_11 e1 rfl ?_
        refine w_ldI e11_14 (fun _ => rfl) rfl ?_
        refine w_ldA e11_15 (fun _ => rfl) rfl ?_
        refine w_ldA e11_16 (fun _ => rfl) rfl ?_
        refine w_get e11_17 e1 rfl ?_
        refine w_ldI e11_20 (fun _ => rfl) rfl ?_
        obtain ⟨f10, e9⟩ := tc_l60 hT (ty_p ha1).1
        refine w_lldO e11_21 e9 (by omega) (by omega) (by decide) (fun l11 => ?_)
        refine w_oI e11_22 (fun _ => rfl) (fun q12 h13 => ?_)
        obtain ⟨hn15, e14⟩ := tc_places hT
        refine w_cv e11_23 (by decide) rfl e14 rfl (Nat.le_of_ble_eq_true rfl) (Nat.le_of_ble_eq_true rfl) (Nat.le_of_ble_eq_true rfl) (by decide) (by decide) (c8 hT h13) (fun o16 v17 hq18 => ?_)
        obtain ⟨rfl, l20, rfl⟩ := hq18
        refine w_lst e11_26 e9 (by omega) (by omega) (by decide) (fun v23 b21 h22 => ?_)
        have hT24 := ts_l60 hT (ty_p ha1).1 (wok_s hw1) b21 h22
        have e25 := (b21.2 a1 (by omega)).trans e1
        have e26 := (b21.2 2 (ty_ne (rfl : ty 2 = 4) (ty_p ha1).1 (by decide))).trans e14
        refine w_iinc (A1 := [some (.ref 2), some (.ref a1), some (.int (vz (x2 + 1)))]) e11_27 rfl (by decide) rfl ?_
        refine w_x e11_30 (fun _ => rfl) ?_
        exact w_sub (A1 := [some (.ref 2), some (.ref a1), some (.int (vz (x2 + 1)))]) (And.intro rfl (And.intro rfl (And.intro rfl trivial))) ((ih) v23 (x2 + 1) hT24 (by omega) (by omega))
set_option maxRecDepth 100000 in
set_option maxHeartbeats 4000000 in
theorem c11 {θ : tc_S} {v0 : (Bool × Bool) × vm_H} {vh : vm_H} (hT : tc θ v0 vh) {a1 : Nat} (ha1 : ty a1 = 1) (hw1 : wok v0 a1) : vm_Rp 1 26 11 [.ref 2, .ref a1] vh (fun r v1 => (tc θ v0 v1) ∧ r = none) := by
  have hok : (0 ≤ θ.1 ∧ θ.1 ≤ 8) ∧ (0 ≤ θ.2.1 ∧ θ.2.1 ≤ 16) ∧ (-2147483648 ≤ θ.2.2.2.1 ∧ θ.2.2.2.1 < 2147483648) ∧ (0 ≤ θ.2.2.2.2 ∧ θ.2.2.2.2 ≤ 8) := hT.1
  refine w_in (m := 1) ?_
  show vm_Wp _ _ _ 0 [some (.ref 2), some (.ref a1), none] [] _ _
  refine w_kI e11_0 ?_
  refine w_stI (j := 2) (A1 := [some (.ref 2), some (.ref a1), some (.int (vz 0))]) e11_1 (fun _ => rfl) (by decide) rfl ?_
  exact w_sub (A1 := [some (.ref 2), some (.ref a1), some (.int (vz 0))]) (And.intro rfl (And.intro rfl (And.intro rfl trivial))) (((c11_L (θ := θ) (a1 := a1) (v0 := v0) ha1 hw1 _)) vh 0 hT (by omega) (Nat.lt_succ_self _))
set_option maxRecDepth 100000 in
set_option maxHeartbeats 4000000 in
theorem c6_L {θ : tc_S} {v0 : (Bool × Bool) × vm_H} (hu : v0.1.2 = false) {i1 : Int} (hi_1 : 0 ≤ i1 ∧ i1 < 8) {i2 : Int} (hi_2 : 0 ≤ i2 ∧ i2 < 8) : ∀ N : Nat, (∀ (vh : vm_H) (x3 : Int) (x4 : Int), (tc θ v0 vh) → (0 ≤ x3 ∧ x3 < 8) → (0 ≤ x4 ∧ x4 ≤ 8) → ((100 - x4 : Int).toNat < N) → vm_Wp 0 0 6 10 [some (.ref 2), some (.int (vz i1)), some (.int (vz i2)), some (.int (vz x3)), some (.int (vz x4))] [] vh (vq_P 6 (fun r v1 => (tc θ v0 v1) ∧ r = none))) ∧ (∀ (vh : vm_H) (x3 : Int) (x4 : Int), (tc θ v0 vh) → (0 ≤ x3 ∧ x3 < 8) → (0 ≤ x4 ∧ x4 ≤ 7) → ((x4 + 1 : Int).toNat < N) → vm_Wp 0 0 6 41 [some (.ref 2), some (.int (vz i1)), some (.int (vz i2)), some (.int (vz x3)), some (.int (vz x4))] [] vh (vq_P 6 (fun r v1 => (tc θ v0 v1) ∧ r = none))) := by
  intro N
  induction N with
  | zero => exact ⟨by intros; omega, by intros; omega⟩
  | succ N ih =>
    refine ⟨?_, ?_⟩
    ·
      intro vh x3 x4 hT hx3 hx4 hN
      have hok : (0 ≤ θ.1 ∧ θ.1 ≤ 8) ∧ (0 ≤ θ.2.1 ∧ θ.2.1 ≤ 16) ∧ (-2147483648 ≤ θ.2.2.2.1 ∧ θ.2.2.2.1 < 2147483648) ∧ (0 ≤ θ.2.2.2.2 ∧ θ.2.2.2.2 ≤ 8) := hT.1
      refine w_ldI e6_10 (fun _ => rfl) rfl ?_
      refine w_ldI e6_12 (fun _ => rfl) rfl ?_
      refine w_ic e6_13 (by omega) (by omega) (fun (h8 : i2 ≤ x4) => ?_) (fun (h8 : x4 < i2) => ?_)
      ·
        refine w_ldI e6_38 (fun _ => rfl) rfl ?_
        refine w_stI (j := 4) (A1 := [some (.ref 2), some (.int (vz i1)), some (.int (vz i2)), some (.int (vz x3)), some (.int (vz i1))]) e6_39 (fun _ => rfl) (by decide) rfl ?_
        exact w_sub (A1 := [some (.ref 2), some (.int (vz i1)), some (.int (vz i2)), some (.int (vz x3)), some (.int (vz i1))]) (And.intro rfl (And.intro rfl (And.intro rfl (And.intro rfl (And.intro rfl trivial))))) ((ih.2) vh x3 i1 hT (by omega) (by omega) (by omega))
      ·
        refine w_ldA e6_16 (fun _ => rfl) rfl ?_
        obtain ⟨hn10, e9⟩ := tc_places hT
        refine w_get e6_17 e9 rfl ?_
        refine w_ldI e6_20 (fun _ => rfl) rfl ?_
        refine w_ldA e6_22 (fun _ => rfl) rfl ?_
        refine w_get e6_23 e9 rfl ?_
        refine w_ldI e6_26 (fun _ => rfl) rfl ?_
        refine w_kI e6_28 ?_
        refine w_iadd e6_29 ?_
        obtain ⟨f12, hf13, e11⟩ := tc_vars hT
        refine w_aldF e6_30 e11 (by omega) (by omega) (by decide) hf13 (fun q14 (h15 : 0 ≤ q14 ∧ q14 < 8) => ?_)
        refine w_ast e6_31 e11 (by omega) (by omega) (by decide) (by decide) (fun v18 b16 h17 => ?_)
        have hT19 := ts_vars hu hT hf13 (by omega) b16 h17
        have e20 := (b16.2 2 (by decide)).trans e9
        refine w_iinc (A1 := [some (.ref 2), some (.int (vz i1)), some (.int (vz i2)), some (.int (vz x3)), some (.int (vz (x4 + 1)))]) e6_32 rfl (by decide) rfl ?_
        refine w_x e6_35 (fun _ => rfl) ?_
        exact w_sub (A1 := [some (.ref 2), some (.int (vz i1)), some (.int (vz i2)), some (.int (vz x3)), some (.int (vz (x4 + 1)))]) (And.intro rfl (And.intro rfl (And.intro rfl (And.intro rfl (And.intro rfl trivial))))) ((ih.1) v18 x3 (x4 + 1) hT19 (by omega) (by omega) (by omega))
    ·
      intro vh x3 x4 hT hx3 hx4 hN
      have hok : (0 ≤ θ.1 ∧ θ.1 ≤ 8) ∧ (0 ≤ θ.2.1 ∧ θ.2.1 ≤ 16) ∧ (-2147483648 ≤ θ.2.2.2.1 ∧ θ.2.2.2.1 < 2147483648) ∧ (0 ≤ θ.2.2.2.2 ∧ θ.2.2.2.2 ≤ 8) := hT.1
      refine w_ldI e6_41 (fun _ => rfl) rfl ?_
      refine w_ldI e6_43 (fun _ => rfl) rfl ?_
      refine w_ic e6_44 (by omega) (by omega) (fun (h21 : x4 ≤ i2) => ?_) (fun (h21 : i2 < x4) => ?_)
      ·
        refine w_ldA e6_69 (fun _ => rfl) rfl ?_
        obtain ⟨hn23, e22⟩ := tc_places hT
        refine w_get e6_70 e22 rfl ?_
        refine w_ldI e6_73 (fun _ => rfl) rfl ?_
        refine w_ldI e6_74 (fun _ => rfl) rfl ?_
        obtain ⟨f25, hf26, e24⟩ := tc_vars hT
        refine w_ast e6_75 e24 (by omega) (by omega) (by decide) (by decide) (fun v29 b27 h28 => ?_)
        have hT30 := ts_vars hu hT hf26 (by omega) b27 h28
        have e31 := (b27.2 2 (by decide)).trans e22
        exact w_rv e6_76 rfl ⟨hT30, rfl⟩
      ·
        refine w_ldA e6_47 (fun _ => rfl) rfl ?_
        obtain ⟨hn33, e32⟩ := tc_places hT
        refine w_get e6_48 e32 rfl ?_
        refine w_ldI e6_51 (fun _ => rfl) rfl ?_
        refine w_ldA e6_53 (fun _ => rfl) rfl ?_
        refine w_get e6_54 e32 rfl ?_
        refine w_ldI e6_57 (fun _ => rfl) rfl ?_
        refine w_kI e6_59 ?_
        refine w_isub e6_60 ?_
        obtain ⟨f35, hf36, e34⟩ := tc_vars hT
        refine w_aldF e6_61 e34 (by omega) (by omega) (by decide) hf36 (fun q37 (h38 : 0 ≤ q37 ∧ q37 < 8) => ?_)
        refine w_ast e6_62 e34 (by omega) (by omega) (by decide) (by decide) (fun v41 b39 h40 => ?_)
        have hT42 := ts_vars hu hT hf36 (by omega) b39 h40
        have e43 := (b39.2 2 (by decide)).trans e32
        refine w_iinc (A1 := [some (.ref 2), some (.int (vz i1)), some (.int (vz i2)), some (.int (vz x3)), some (.int (vz (x4 + (-1))))]) e6_63 rfl (by decide) rfl ?_
        refine w_x e6_66 (fun _ => rfl) ?_
        exact w_sub (A1 := [some (.ref 2), some (.int (vz i1)), some (.int (vz i2)), some (.int (vz x3)), some (.int (vz (x4 + (-1))))]) (And.intro rfl (And.intro rfl (And.intro rfl (And.intro rfl (And.intro rfl trivial))))) ((ih.2) v41 x3 (x4 + (-1)) hT42 (by omega) (by omega) (by omega))
set_option maxRecDepth 100000 in
set_option maxHeartbeats 4000000 in
theorem c6 {θ : tc_S} {v0 : (Bool × Bool) × vm_H} {vh : vm_H} (hT : tc θ v0 vh) (hu : v0.1.2 = false) {i1 : Int} (hi_1 : 0 ≤ i1 ∧ i1 < 8) {i2 : Int} (hi_2 : 0 ≤ i2 ∧ i2 < 8) : vm_Rp 0 0 6 [.ref 2, .int (vz i1), .int (vz i2)] vh (fun r v1 => (tc θ v0 v1) ∧ r = none) := by
  have hok : (0 ≤ θ.1 ∧ θ.1 ≤ 8) ∧ (0 ≤ θ.2.1 ∧ θ.2.1 ≤ 16) ∧ (-2147483648 ≤ θ.2.2.2.1 ∧ θ.2.2.2.1 < 2147483648) ∧ (0 ≤ θ.2.2.2.2 ∧ θ.2.2.2.2 ≤ 8) := hT.1
  refine w_in (m := 2) ?_
  show vm_Wp _ _ _ 0 [some (.ref 2), some (.int (vz i1)), some (.int (vz i2)), none, none] [] _ _
  refine w_ldA e6_0 (fun _ => rfl) rfl ?_
  obtain ⟨hn2, e1⟩ := tc_places hT
  refine w_get e6_1 e1 rfl ?_
  refine w_ldI e6_4 (fun _ => rfl) rfl ?_
  obtain ⟨f4, hf5, e3⟩ := tc_vars hT
  refine w_aldF e6_5 e3 (by omega) (by omega) (by decide) hf5 (fun q6 (h7 : 0 ≤ q6 ∧ q6 < 8) => ?_)
  refine w_stI (j := 3) (A1 := [some (.ref 2), some (.int (vz i1)), some (.int (vz i2)), some (.int (vz q6)), none]) e6_6 (fun _ => rfl) (by decide) rfl ?_
  refine w_ldI e6_7 (fun _ => rfl) rfl ?_
  refine w_stI (j := 4) (A1 := [some (.ref 2), some (.int (vz i1)), some (.int (vz i2)), some (.int (vz q6)), some (.int (vz i1))]) e6_8 (fun _ => rfl) (by decide) rfl ?_
  exact w_sub (A1 := [some (.ref 2), some (.int (vz i1)), some (.int (vz i2)), some (.int (vz q6)), some (.int (vz i1))]) (And.intro rfl (And.intro rfl (And.intro rfl (And.intro rfl (And.intro rfl trivial))))) (((c6_L (θ := θ) (i1 := i1) (i2 := i2) (v0 := v0) hu hi_1 hi_2 _).1) vh q6 i1 hT (by omega) (by omega) (Nat.lt_succ_self _))
set_option maxRecDepth 100000 in
set_option maxHeartbeats 4000000 in
theorem c19 {θ : tc_S} {v0 : (Bool × Bool) × vm_H} {vh : vm_H} (hT : tc θ v0 vh) {a0 : Nat} (ha0 : ty a0 = 1) (hw0 : wok v0 a0) {a1 : Nat} (ha1 : ty a1 = 1) : vm_Rp 1 30 19 [.ref a0, .ref a1] vh (fun r v1 => (tc θ v0 v1) ∧ r = none) := by
  have hok : (0 ≤ θ.1 ∧ θ.1 ≤ 8) ∧ (0 ≤ θ.2.1 ∧ θ.2.1 ≤ 16) ∧ (-2147483648 ≤ θ.2.2.2.1 ∧ θ.2.2.2.1 < 2147483648) ∧ (0 ≤ θ.2.2.2.2 ∧ θ.2.2.2.2 ≤ 8) := hT.1
  refine w_in (m := 0) ?_
  show vm_Wp _ _ _ 0 [some (.ref a0), some (.ref a1)] [] _ _
  refine w_ldA e19_0 (fun _ => rfl) rfl ?_
  obtain ⟨c2, hc3, e1⟩ := tc_poly hT ha1
  refine w_get e19_1 e1 rfl ?_
  refine w_kI e19_4 ?_
  refine w_ldA e19_5 (fun _ => rfl) rfl ?_
  obtain ⟨c5, hc6, e4⟩ := tc_poly hT ha0
  refine w_get e19_6 e4 rfl ?_
  refine w_kI e19_9 ?_
  refine w_ldA e19_10 (fun _ => rfl) rfl ?_
  refine w_get e19_11 e1 rfl ?_
  obtain ⟨f8, e7⟩ := tc_l60 hT (ty_p ha1).1
  obtain ⟨f10, e9⟩ := tc_l60 hT (ty_p ha0).1
  refine w_acL e19_14 e7 e9 (by omega) (by omega) (by omega) (by omega) (by omega) (by decide) (by decide) (Nat.le_of_ble_eq_true rfl) (by decide) (by decide) (fun v11 b12 h13 => ?_)
  have hT14 := ts_l60 hT (ty_p ha0).1 (wok_s hw0) b12 h13
  have e15 := (b12.2 a1 (ty_ne ha1 (ty_p ha0).1 (by decide))).trans e1
  have e16 := (b12.2 a0 (by omega)).trans e4
  refine w_ldA e19_17 (fun _ => rfl) rfl ?_
  refine w_get e19_18 e15 rfl ?_
  refine w_kI e19_21 ?_
  refine w_ldA e19_22 (fun _ => rfl) rfl ?_
  refine w_get e19_23 e16 rfl ?_
  refine w_kI e19_26 ?_
  refine w_ldA e19_27 (fun _ => rfl) rfl ?_
  refine w_get e19_28 e15 rfl ?_
  obtain ⟨f18, e17⟩ := tc_l60 hT14 (ty_p ha1).2
  obtain ⟨f20, e19⟩ := tc_l60 hT14 (ty_p ha0).2
  refine w_acL e19_31 e17 e19 (by omega) (by omega) (by omega) (by omega) (by omega) (by decide) (by decide) (Nat.le_of_ble_eq_true rfl) (by decide) (by decide) (fun v21 b22 h23 => ?_)
  have hT24 := ts_l60 hT14 (ty_p ha0).2 (wok_s hw0) b22 h23
  have e25 := (b22.2 a1 (ty_ne ha1 (ty_p ha0).2 (by decide))).trans e15
  have e26 := (b22.2 a0 (by omega)).trans e16
  refine w_ldA e19_34 (fun _ => rfl) rfl ?_
  refine w_ldA e19_35 (fun _ => rfl) rfl ?_
  refine w_get e19_36 e25 rfl ?_
  refine w_put e19_39 e26 (Nat.le_of_ble_eq_true rfl) rfl (fun v29 b27 h28 => ?_)
  have h28 : vm_at v29 a0 = some (.inr (1, [.ref (a0 + 1), .ref (a0 + 2), .int (vz c2)])) := h28
  have hT30 := ts_poly hT24 ha0 (by omega) hw0 b27 h28
  exact w_rv e19_42 rfl ⟨hT30, rfl⟩
set_option maxRecDepth 100000 in
set_option maxHeartbeats 4000000 in
theorem c24 {θ : tc_S} {v0 : (Bool × Bool) × vm_H} {vh : vm_H} (hT : tc θ v0 vh) {a0 : Nat} (ha0 : ty a0 = 1) (hw0 : wok v0 a0) {i1 : Int} (hi_1 : -2147483648 ≤ i1 ∧ i1 < 2147483648) {n : Int} (gc_0 : vm_at vh a0 = some (.inr (1, [.ref (a0 + 1), .ref (a0 + 2), .int (vz n)]))) (gi_0 : 0 ≤ i1 ∧ i1 ≤ n ∧ n < 60) : vm_Rp 1 30 24 [.ref a0, .int (vz i1)] vh (fun r v1 => (tc θ v0 v1 ∧ vm_at v1 a0 = some (.inr (1, [.ref (a0 + 1), .ref (a0 + 2), .int (vz (n + 1))]))) ∧ r = none) := by
  have hok : (0 ≤ θ.1 ∧ θ.1 ≤ 8) ∧ (0 ≤ θ.2.1 ∧ θ.2.1 ≤ 16) ∧ (-2147483648 ≤ θ.2.2.2.1 ∧ θ.2.2.2.1 < 2147483648) ∧ (0 ≤ θ.2.2.2.2 ∧ θ.2.2.2.2 ≤ 8) := hT.1
  refine w_in (m := 0) ?_
  show vm_Wp _ _ _ 0 [some (.ref a0), some (.int (vz i1))] [] _ _
  refine w_ldA e24_0 (fun _ => rfl) rfl ?_
  refine w_get e24_1 gc_0 rfl ?_
  refine w_ldI e24_4 (fun _ => rfl) rfl ?_
  refine w_ldA e24_5 (fun _ => rfl) rfl ?_
  refine w_get e24_6 gc_0 rfl ?_
  refine w_ldI e24_9 (fun _ => rfl) rfl ?_
  refine w_kI e24_10 ?_
  refine w_iadd e24_11 ?_
  refine w_ldA e24_12 (fun _ => rfl) rfl ?_
  refine w_get e24_13 gc_0 rfl ?_
  refine w_ldI e24_16 (fun _ => rfl) rfl ?_
  refine w_isub e24_17 ?_
  obtain ⟨f2, e1⟩ := tc_l60 hT (ty_p ha0).1
  refine w_acL e24_18 e1 e1 (by omega) (by omega) (by omega) (by omega) (by omega) (by decide) (by decide) (Nat.le_of_ble_eq_true rfl) (by decide) (by decide) (fun v3 b4 h5 => ?_)
  have hT6 := ts_l60 hT (ty_p ha0).1 (wok_s hw0) b4 h5
  have e7 := (b4.2 a0 (by omega)).trans gc_0
  refine w_ldA e24_21 (fun _ => rfl) rfl ?_
  refine w_get e24_22 e7 rfl ?_
  refine w_ldI e24_25 (fun _ => rfl) rfl ?_
  refine w_ldA e24_26 (fun _ => rfl) rfl ?_
  refine w_get e24_27 e7 rfl ?_
  refine w_ldI e24_30 (fun _ => rfl) rfl ?_
  refine w_kI e24_31 ?_
  refine w_iadd e24_32 ?_
  refine w_ldA e24_33 (fun _ => rfl) rfl ?_
  refine w_get e24_34 e7 rfl ?_
  refine w_ldI e24_37 (fun _ => rfl) rfl ?_
  refine w_isub e24_38 ?_
  obtain ⟨f9, e8⟩ := tc_l60 hT6 (ty_p ha0).2
  refine w_acL e24_39 e8 e8 (by omega) (by omega) (by omega) (by omega) (by omega) (by decide) (by decide) (Nat.le_of_ble_eq_true rfl) (by decide) (by decide) (fun v10 b11 h12 => ?_)
  have hT13 := ts_l60 hT6 (ty_p ha0).2 (wok_s hw0) b11 h12
  have e14 := (b11.2 a0 (by omega)).trans e7
  refine w_ldA e24_42 (fun _ => rfl) rfl ?_
  refine w_x e24_43 (fun _ => rfl) ?_
  refine w_get e24_44 e14 rfl ?_
  refine w_kI e24_47 ?_
  refine w_iadd e24_48 ?_
  refine w_put e24_49 e14 (Nat.le_of_ble_eq_true rfl) rfl (fun v17 b15 h16 => ?_)
  have h16 : vm_at v17 a0 = some (.inr (1, [.ref (a0 + 1), .ref (a0 + 2), .int (vz (n + 1))])) := h16
  have hT18 := ts_poly hT13 ha0 (by omega) hw0 b15 h16
  exact w_rv e24_52 rfl ⟨⟨hT18, h16⟩, rfl⟩
set_option maxRecDepth 100000 in
set_option maxHeartbeats 4000000 in
theorem c25 {θ : tc_S} {v0 : (Bool × Bool) × vm_H} {vh : vm_H} (hT : tc θ v0 vh) {a0 : Nat} (ha0 : ty a0 = 1) (hw0 : wok v0 a0) {i1 : Int} (hi_1 : -2147483648 ≤ i1 ∧ i1 < 2147483648) {n : Int} (gc_0 : vm_at vh a0 = some (.inr (1, [.ref (a0 + 1), .ref (a0 + 2), .int (vz n)]))) (gi_0 : 0 ≤ i1 ∧ i1 < n ∧ n ≤ 60) : vm_Rp 1 30 25 [.ref a0, .int (vz i1)] vh (fun r v1 => (tc θ v0 v1 ∧ vm_at v1 a0 = some (.inr (1, [.ref (a0 + 1), .ref (a0 + 2), .int (vz (n + (-1)))]))) ∧ r = none) := by
  have hok : (0 ≤ θ.1 ∧ θ.1 ≤ 8) ∧ (0 ≤ θ.2.1 ∧ θ.2.1 ≤ 16) ∧ (-2147483648 ≤ θ.2.2.2.1 ∧ θ.2.2.2.1 < 2147483648) ∧ (0 ≤ θ.2.2.2.2 ∧ θ.2.2.2.2 ≤ 8) := hT.1
  refine w_in (m := 0) ?_
  show vm_Wp _ _ _ 0 [some (.ref a0), some (.int (vz i1))] [] _ _
  refine w_ldA e25_0 (fun _ => rfl) rfl ?_
  refine w_get e25_1 gc_0 rfl ?_
  refine w_ldI e25_4 (fun _ => rfl) rfl ?_
  refine w_kI e25_5 ?_
  refine w_iadd e25_6 ?_
  refine w_ldA e25_7 (fun _ => rfl) rfl ?_
  refine w_get e25_8 gc_0 rfl ?_
  refine w_ldI e25_11 (fun _ => rfl) rfl ?_
  refine w_ldA e25_12 (fun _ => rfl) rfl ?_
  refine w_get e25_13 gc_0 rfl ?_
  refine w_ldI e25_16 (fun _ => rfl) rfl ?_
  refine w_isub e25_17 ?_
  refine w_kI e25_18 ?_
  refine w_isub e25_19 ?_
  obtain ⟨f2, e1⟩ := tc_l60 hT (ty_p ha0).1
  refine w_acL e25_20 e1 e1 (by omega) (by omega) (by omega) (by omega) (by omega) (by decide) (by decide) (Nat.le_of_ble_eq_true rfl) (by decide) (by decide) (fun v3 b4 h5 => ?_)
  have hT6 := ts_l60 hT (ty_p ha0).1 (wok_s hw0) b4 h5
  have e7 := (b4.2 a0 (by omega)).trans gc_0
  refine w_ldA e25_23 (fun _ => rfl) rfl ?_
  refine w_get e25_24 e7 rfl ?_
  refine w_ldI e25_27 (fun _ => rfl) rfl ?_
  refine w_kI e25_28 ?_
  refine w_iadd e25_29 ?_
  refine w_ldA e25_30 (fun _ => rfl) rfl ?_
  refine w_get e25_31 e7 rfl ?_
  refine w_ldI e25_34 (fun _ => rfl) rfl ?_
  refine w_ldA e25_35 (fun _ => rfl) rfl ?_
  refine w_get e25_36 e7 rfl ?_
  refine w_ldI e25_39 (fun _ => rfl) rfl ?_
  refine w_isub e25_40 ?_
  refine w_kI e25_41 ?_
  refine w_isub e25_42 ?_
  obtain ⟨f9, e8⟩ := tc_l60 hT6 (ty_p ha0).2
  refine w_acL e25_43 e8 e8 (by omega) (by omega) (by omega) (by omega) (by omega) (by decide) (by decide) (Nat.le_of_ble_eq_true rfl) (by decide) (by decide) (fun v10 b11 h12 => ?_)
  have hT13 := ts_l60 hT6 (ty_p ha0).2 (wok_s hw0) b11 h12
  have e14 := (b11.2 a0 (by omega)).trans e7
  refine w_ldA e25_46 (fun _ => rfl) rfl ?_
  refine w_x e25_47 (fun _ => rfl) ?_
  refine w_get e25_48 e14 rfl ?_
  refine w_kI e25_51 ?_
  refine w_isub e25_52 ?_
  refine w_put e25_53 e14 (Nat.le_of_ble_eq_true rfl) rfl (fun v17 b15 h16 => ?_)
  have h16 : vm_at v17 a0 = some (.inr (1, [.ref (a0 + 1), .ref (a0 + 2), .int (vz (n - 1))])) := h16
  have hT18 := ts_poly hT13 ha0 (by omega) hw0 b15 h16
  exact w_rv e25_56 rfl ⟨⟨hT18, h16⟩, rfl⟩
