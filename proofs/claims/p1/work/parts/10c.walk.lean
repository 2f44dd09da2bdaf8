set_option maxRecDepth 100000 in
set_option maxHeartbeats 4000000 in
theorem m_X0_has {vh : vm_H} (h2 : vm_at vh 2 = some (.inr (0, [.int 0, .ref 3, .ref 4, .ref 5]))) (a : Int32) : vm_Rp 0 0 2 [.ref 2, .int a] vh (fun q vh1 => q = some (.int 0) ∧ vh1 = vh) := by
  refine w_x e2_0 rfl ?_
  refine w_ifb e2_1 (fun c1 => ?_) (fun c1 => ?_)
  ·
    refine w_x e2_16 rfl ?_
    exact w_rz e2_17 rfl (by decide) ⟨rfl, rfl⟩
  ·
    refine w_x e2_4 rfl ?_
    refine w_x e2_5 rfl ?_
    refine w_get e2_6 h2 rfl ?_
    refine w_ic1 e2_9 (vm_neg0 c1) ?_
    refine w_x e2_16 rfl ?_
    exact w_rz e2_17 rfl (by decide) ⟨rfl, rfl⟩
set_option maxRecDepth 100000 in
set_option maxHeartbeats 4000000 in
theorem m_X0_append {vh : vm_H} (h2 : vm_at vh 2 = some (.inr (0, [.int 0, .ref 3, .ref 4, .ref 5]))) {f3 : Nat → Int32} (h3 : vm_at vh 3 = some (.inl (2, 8, .inl f3))) {f5 : Nat → Int32} (h5 : vm_at vh 5 = some (.inl (0, 8, .inl f5))) (a : Int32) : vm_Rp 0 0 3 [.ref 2, .int a] vh (fun q vh1 => q = some (.int 0) ∧ ∀ n, n ≠ 2 → n ≠ 3 → n ≠ 5 → vm_at vh1 n = vm_at vh n) := by
  refine w_x e3_0 rfl ?_
  refine w_get e3_1 h2 rfl ?_
  refine w_x e3_4 rfl ?_
  refine w_ic1 e3_6 (by decide) ?_
  refine w_x e3_11 rfl ?_
  refine w_get e3_12 h2 rfl ?_
  refine w_x e3_15 rfl ?_
  refine w_get e3_16 h2 rfl ?_
  refine w_x e3_19 rfl ?_
  refine w_zst e3_20 h3 (by decide) (fun v2 b3 h3 => ?_)
  have h3 : vm_at v2 3 = some (.inl (2, 8, .inl (upd f3 (Int32.toNatClampNeg 0) (a &&& 1)))) := h3
  have h2 := (b3.2 2 (by decide)).trans h2
  have h5 := (b3.2 5 (by decide)).trans h5
  obtain ⟨f1, h3⟩ : ∃ f, vm_at v2 3 = some (.inl (2, 8, .inl f)) := ⟨_, h3⟩
  refine w_x e3_21 rfl ?_
  refine w_get e3_22 h2 rfl ?_
  refine w_x e3_25 rfl ?_
  refine w_get e3_26 h2 rfl ?_
  refine w_x e3_29 rfl ?_
  refine w_get e3_30 h2 rfl ?_
  refine w_ast e3_33 h5 (by decide) (by decide) (fun v5 b6 h5 => ?_)
  have h5 : vm_at v5 5 = some (.inl (0, 8, .inl (upd f5 (Int32.toNatClampNeg 0) 0))) := h5
  have h2 := (b6.2 2 (by decide)).trans h2
  have h3 := (b6.2 3 (by decide)).trans h3
  obtain ⟨f4, h5⟩ : ∃ f, vm_at v5 5 = some (.inl (0, 8, .inl f)) := ⟨_, h5⟩
  refine w_x e3_34 rfl ?_
  refine w_x e3_35 rfl ?_
  refine w_get e3_36 h2 rfl ?_
  refine w_x e3_39 rfl ?_
  refine w_x e3_40 rfl ?_
  refine w_put e3_41 h2 (by decide) rfl (fun v7 b8 h2 => ?_)
  have h2 : vm_at v7 2 = some (.inr (0, [.int 1, .ref 3, .ref 4, .ref 5])) := h2
  have h3 := (b8.2 3 (by decide)).trans h3
  have h5 := (b8.2 5 (by decide)).trans h5
  refine w_x e3_44 rfl ?_
  refine w_get e3_45 h2 rfl ?_
  refine w_x e3_48 rfl ?_
  refine w_x e3_49 rfl ?_
  exact w_ri e3_50 rfl ⟨rfl, fun n hn0 hn1 hn2 => ((b8.2 n (by first | assumption | omega))).trans (((b6.2 n (by first | assumption | omega))).trans ((b3.2 n (by first | assumption | omega))))⟩
set_option maxRecDepth 100000 in
set_option maxHeartbeats 4000000 in
theorem m_clear227 {vh : vm_H} (h227 : vm_at vh 227 = some (.inr (1, [.ref 228, .ref 229, .int 0]))) : vm_Rp 0 0 6 [.ref 227] vh (fun q vh1 => q = none ∧ ∀ n, n ≠ 227 → vm_at vh1 n = vm_at vh n) := by
  refine w_x e6_0 rfl ?_
  refine w_x e6_1 rfl ?_
  refine w_put e6_2 h227 (by decide) rfl (fun v1 b2 h227 => ?_)
  have h227 : vm_at v1 227 = some (.inr (1, [.ref 228, .ref 229, .int 0])) := h227
  exact w_rv e6_5 rfl ⟨rfl, fun n hn0 => (b2.2 n (by first | assumption | omega))⟩
set_option maxRecDepth 100000 in
set_option maxHeartbeats 4000000 in
theorem m_clear230 {vh : vm_H} (h230 : vm_at vh 230 = some (.inr (1, [.ref 231, .ref 232, .int 0]))) : vm_Rp 0 0 6 [.ref 230] vh (fun q vh1 => q = none ∧ ∀ n, n ≠ 230 → vm_at vh1 n = vm_at vh n) := by
  refine w_x e6_0 rfl ?_
  refine w_x e6_1 rfl ?_
  refine w_put e6_2 h230 (by decide) rfl (fun v1 b2 h230 => ?_)
  have h230 : vm_at v1 230 = some (.inr (1, [.ref 231, .ref 232, .int 0])) := h230
  exact w_rv e6_5 rfl ⟨rfl, fun n hn0 => (b2.2 n (by first | assumption | omega))⟩
set_option maxRecDepth 100000 in
set_option maxHeartbeats 4000000 in
theorem m_J7_fill_53178 {vh : vm_H} {f233 : Nat → Int32} (h233 : vm_at vh 233 = some (.inl (0, 8, .inl f233))) : vm_Rp 0 0 55 [.ref 233, .int 0] vh (fun q vh1 => q = none ∧ ∀ n, n ≠ 233 → vm_at vh1 n = vm_at vh n) := by
  refine w_x e55_0 rfl ?_
  refine w_x e55_1 rfl ?_
  refine w_x e55_2 rfl ?_
  refine w_len e55_3 h233 (by decide) ?_
  refine w_x e55_4 rfl ?_
  refine w_x e55_5 rfl ?_
  refine w_x e55_6 rfl ?_
  refine w_ic0 e55_7 (by decide) ?_
  refine w_x e55_10 rfl ?_
  refine w_x e55_11 rfl ?_
  refine w_x e55_12 rfl ?_
  refine w_ast e55_13 h233 (by decide) (by decide) (fun v2 b3 h233 => ?_)
  have h233 : vm_at v2 233 = some (.inl (0, 8, .inl (upd f233 (Int32.toNatClampNeg 0) 0))) := h233
  obtain ⟨f1, h233⟩ : ∃ f, vm_at v2 233 = some (.inl (0, 8, .inl f)) := ⟨_, h233⟩
  refine w_x e55_14 rfl ?_
  refine w_x e55_17 rfl ?_
  refine w_x e55_5 rfl ?_
  refine w_x e55_6 rfl ?_
  refine w_ic0 e55_7 (by decide) ?_
  refine w_x e55_10 rfl ?_
  refine w_x e55_11 rfl ?_
  refine w_x e55_12 rfl ?_
  refine w_ast e55_13 h233 (by decide) (by decide) (fun v5 b6 h233 => ?_)
  have h233 : vm_at v5 233 = some (.inl (0, 8, .inl (upd f1 (Int32.toNatClampNeg 1) 0))) := h233
  obtain ⟨f4, h233⟩ : ∃ f, vm_at v5 233 = some (.inl (0, 8, .inl f)) := ⟨_, h233⟩
  refine w_x e55_14 rfl ?_
  refine w_x e55_17 rfl ?_
  refine w_x e55_5 rfl ?_
  refine w_x e55_6 rfl ?_
  refine w_ic0 e55_7 (by decide) ?_
  refine w_x e55_10 rfl ?_
  refine w_x e55_11 rfl ?_
  refine w_x e55_12 rfl ?_
  refine w_ast e55_13 h233 (by decide) (by decide) (fun v8 b9 h233 => ?_)
  have h233 : vm_at v8 233 = some (.inl (0, 8, .inl (upd f4 (Int32.toNatClampNeg 2) 0))) := h233
  obtain ⟨f7, h233⟩ : ∃ f, vm_at v8 233 = some (.inl (0, 8, .inl f)) := ⟨_, h233⟩
  refine w_x e55_14 rfl ?_
  refine w_x e55_17 rfl ?_
  refine w_x e55_5 rfl ?_
  refine w_x e55_6 rfl ?_
  refine w_ic0 e55_7 (by decide) ?_
  refine w_x e55_10 rfl ?_
  refine w_x e55_11 rfl ?_
  refine w_x e55_12 rfl ?_
  refine w_ast e55_13 h233 (by decide) (by decide) (fun v11 b12 h233 => ?_)
  have h233 : vm_at v11 233 = some (.inl (0, 8, .inl (upd f7 (Int32.toNatClampNeg 3) 0))) := h233
  obtain ⟨f10, h233⟩ : ∃ f, vm_at v11 233 = some (.inl (0, 8, .inl f)) := ⟨_, h233⟩
  refine w_x e55_14 rfl ?_
  refine w_x e55_17 rfl ?_
  refine w_x e55_5 rfl ?_
  refine w_x e55_6 rfl ?_
  refine w_ic0 e55_7 (by decide) ?_
  refine w_x e55_10 rfl ?_
  refine w_x e55_11 rfl ?_
  refine w_x e55_12 rfl ?_
  refine w_ast e55_13 h233 (by decide) (by decide) (fun v14 b15 h233 => ?_)
  have h233 : vm_at v14 233 = some (.inl (0, 8, .inl (upd f10 (Int32.toNatClampNeg 4) 0))) := h233
  obtain ⟨f13, h233⟩ : ∃ f, vm_at v14 233 = some (.inl (0, 8, .inl f)) := ⟨_, h233⟩
  refine w_x e55_14 rfl ?_
  refine w_x e55_17 rfl ?_
  refine w_x e55_5 rfl ?_
  refine w_x e55_6 rfl ?_
  refine w_ic0 e55_7 (by decide) ?_
  refine w_x e55_10 rfl ?_
  refine w_x e55_11 rfl ?_
  refine w_x e55_12 rfl ?_
  refine w_ast e55_13 h233 (by decide) (by decide) (fun v17 b18 h233 => ?_)
  have h233 : vm_at v17 233 = some (.inl (0, 8, .inl (upd f13 (Int32.toNatClampNeg 5) 0))) := h233
  obtain ⟨f16, h233⟩ : ∃ f, vm_at v17 233 = some (.inl (0, 8, .inl f)) := ⟨_, h233⟩
  refine w_x e55_14 rfl ?_
  refine w_x e55_17 rfl ?_
  refine w_x e55_5 rfl ?_
  refine w_x e55_6 rfl ?_
  refine w_ic0 e55_7 (by decide) ?_
  refine w_x e55_10 rfl ?_
  refine w_x e55_11 rfl ?_
  refine w_x e55_12 rfl ?_
  refine w_ast e55_13 h233 (by decide) (by decide) (fun v20 b21 h233 => ?_)
  have h233 : vm_at v20 233 = some (.inl (0, 8, .inl (upd f16 (Int32.toNatClampNeg 6) 0))) := h233
  obtain ⟨f19, h233⟩ : ∃ f, vm_at v20 233 = some (.inl (0, 8, .inl f)) := ⟨_, h233⟩
  refine w_x e55_14 rfl ?_
  refine w_x e55_17 rfl ?_
  refine w_x e55_5 rfl ?_
  refine w_x e55_6 rfl ?_
  refine w_ic0 e55_7 (by decide) ?_
  refine w_x e55_10 rfl ?_
  refine w_x e55_11 rfl ?_
  refine w_x e55_12 rfl ?_
  refine w_ast e55_13 h233 (by decide) (by decide) (fun v23 b24 h233 => ?_)
  have h233 : vm_at v23 233 = some (.inl (0, 8, .inl (upd f19 (Int32.toNatClampNeg 7) 0))) := h233
  obtain ⟨f22, h233⟩ : ∃ f, vm_at v23 233 = some (.inl (0, 8, .inl f)) := ⟨_, h233⟩
  refine w_x e55_14 rfl ?_
  refine w_x e55_17 rfl ?_
  refine w_x e55_5 rfl ?_
  refine w_x e55_6 rfl ?_
  refine w_ic1 e55_7 (by decide) ?_
  exact w_rv e55_20 rfl ⟨rfl, fun n hn0 => ((b24.2 n (by first | assumption | omega))).trans (((b21.2 n (by first | assumption | omega))).trans (((b18.2 n (by first | assumption | omega))).trans (((b15.2 n (by first | assumption | omega))).trans (((b12.2 n (by first | assumption | omega))).trans (((b9.2 n (by first | assumption | omega))).trans (((b6.2 n (by first | assumption | omega))).trans ((b3.2 n (by first | assumption | omega)))))))))⟩
set_option maxRecDepth 100000 in
set_option maxHeartbeats 4000000 in
theorem m_X5_forgetSet {vh : vm_H} (h1 : vm_at vh 1 = some (.inr (5, [.ref 2, .ref 6, .ref 55, .int 0, .ref 56, .int 0, .ref 217, .ref 219, .ref 224, .ref 227, .ref 230, .ref 233, .ref 234, .ref 237, .int 0, .int 0, .int 0, .int 0]))) (h217 : vm_at vh 217 = some (.inr (4, [.ref 218, .int 0]))) (h227 : vm_at vh 227 = some (.inr (1, [.ref 228, .ref 229, .int 0]))) (h230 : vm_at vh 230 = some (.inr (1, [.ref 231, .ref 232, .int 0]))) {f233 : Nat → Int32} (h233 : vm_at vh 233 = some (.inl (0, 8, .inl f233))) : vm_Rp 1 23 31 [.ref 1] vh (fun q vh1 => q = none ∧ ∀ n, n ≠ 217 → n ≠ 227 → n ≠ 230 → n ≠ 233 → vm_at vh1 n = vm_at vh n) := by
  refine w_x e31_0 rfl ?_
  refine w_get e31_1 h1 rfl ?_
  refine w_x e31_4 rfl ?_
  refine w_put e31_5 h217 (by decide) rfl (fun v1 b2 h217 => ?_)
  have h217 : vm_at v1 217 = some (.inr (4, [.ref 218, .int 0])) := h217
  have h1 := (b2.2 1 (by decide)).trans h1
  have h227 := (b2.2 227 (by decide)).trans h227
  have h230 := (b2.2 230 (by decide)).trans h230
  have h233 := (b2.2 233 (by decide)).trans h233
  refine w_x e31_8 rfl ?_
  refine w_get e31_9 h1 rfl ?_
  refine w_cv (d1 := 0) (w1 := 0) e31_12 rfl h227 rfl (Nat.le_of_ble_eq_true rfl) (Nat.le_of_ble_eq_true rfl) (Nat.le_of_ble_eq_true rfl) (by decide) (by decide) (m_clear227 h227) (fun rv3 v3 q4 => ?_)
  obtain ⟨rfl, q4⟩ := q4
  have h1 := (q4 1 (by decide)).trans h1
  have h217 := (q4 217 (by decide)).trans h217
  have h230 := (q4 230 (by decide)).trans h230
  have h233 := (q4 233 (by decide)).trans h233
  refine w_x e31_15 rfl ?_
  refine w_get e31_16 h1 rfl ?_
  refine w_cv (d1 := 0) (w1 := 0) e31_19 rfl h230 rfl (Nat.le_of_ble_eq_true rfl) (Nat.le_of_ble_eq_true rfl) (Nat.le_of_ble_eq_true rfl) (by decide) (by decide) (m_clear230 h230) (fun rv5 v5 q6 => ?_)
  obtain ⟨rfl, q6⟩ := q6
  have h1 := (q6 1 (by decide)).trans h1
  have h217 := (q6 217 (by decide)).trans h217
  have h233 := (q6 233 (by decide)).trans h233
  refine w_x e31_22 rfl ?_
  refine w_get e31_23 h1 rfl ?_
  refine w_x e31_26 rfl ?_
  refine w_cs (d1 := 0) (w1 := 0) e31_27 (Nat.le_of_ble_eq_true rfl) (Nat.le_of_ble_eq_true rfl) (Nat.le_of_ble_eq_true rfl) (by decide) (by decide) (m_J7_fill_53178 h233) (fun rv7 v7 q8 => ?_)
  obtain ⟨rfl, q8⟩ := q8
  have h1 := (q8 1 (by decide)).trans h1
  have h217 := (q8 217 (by decide)).trans h217
  exact w_rv e31_30 rfl ⟨rfl, fun n hn0 hn1 hn2 hn3 => ((q8 n (by first | assumption | omega))).trans (((q6 n (by first | assumption | omega))).trans (((q4 n (by first | assumption | omega))).trans ((b2.2 n (by first | assumption | omega)))))⟩
set_option maxRecDepth 100000 in
set_option maxHeartbeats 4000000 in
theorem m_X5_variable {vh : vm_H} (h1 : vm_at vh 1 = some (.inr (5, [.ref 2, .ref 6, .ref 55, .int 0, .ref 56, .int 0, .ref 217, .ref 219, .ref 224, .ref 227, .ref 230, .ref 233, .ref 234, .ref 237, .int 0, .int 0, .int 0, .int 0]))) (h2 : vm_at vh 2 = some (.inr (0, [.int 0, .ref 3, .ref 4, .ref 5]))) {f3 : Nat → Int32} (h3 : vm_at vh 3 = some (.inl (2, 8, .inl f3))) {f5 : Nat → Int32} (h5 : vm_at vh 5 = some (.inl (0, 8, .inl f5))) (h217 : vm_at vh 217 = some (.inr (4, [.ref 218, .int 0]))) (h227 : vm_at vh 227 = some (.inr (1, [.ref 228, .ref 229, .int 0]))) (h230 : vm_at vh 230 = some (.inr (1, [.ref 231, .ref 232, .int 0]))) {f233 : Nat → Int32} (h233 : vm_at vh 233 = some (.inl (0, 8, .inl f233))) (a : Int32) : vm_Rp 2 43 12 [.ref 1, .int a] vh (fun q vh1 => q = some (.int 0) ∧ ∀ n, n ≠ 2 → n ≠ 3 → n ≠ 5 → n ≠ 217 → n ≠ 227 → n ≠ 230 → n ≠ 233 → vm_at vh1 n = vm_at vh n) := by
  refine w_x e12_0 rfl ?_
  refine w_get e12_1 h1 rfl ?_
  refine w_x e12_4 rfl ?_
  refine w_cv (d1 := 0) (w1 := 0) e12_5 rfl h2 rfl (Nat.le_of_ble_eq_true rfl) (Nat.le_of_ble_eq_true rfl) (Nat.le_of_ble_eq_true rfl) (by decide) (by decide) (m_X0_append h2 h3 h5 _) (fun rv1 v1 q2 => ?_)
  obtain ⟨rfl, q2⟩ := q2
  have h1 := (q2 1 (by decide) (by decide) (by decide)).trans h1
  have h217 := (q2 217 (by decide) (by decide) (by decide)).trans h217
  have h227 := (q2 227 (by decide) (by decide) (by decide)).trans h227
  have h230 := (q2 230 (by decide) (by decide) (by decide)).trans h230
  have h233 := (q2 233 (by decide) (by decide) (by decide)).trans h233
  refine w_x e12_8 rfl ?_
  refine w_x e12_9 rfl ?_
  refine w_x e12_10 rfl ?_
  refine w_ic0 e12_11 (by decide) ?_
  refine w_x e12_14 rfl ?_
  refine w_cv (d1 := 1) (w1 := 23) e12_15 rfl h1 rfl (Nat.le_of_ble_eq_true rfl) (Nat.le_of_ble_eq_true rfl) (Nat.le_of_ble_eq_true rfl) (by decide) (by decide) (m_X5_forgetSet h1 h217 h227 h230 h233) (fun rv3 v3 q4 => ?_)
  obtain ⟨rfl, q4⟩ := q4
  have h1 := (q4 1 (by decide) (by decide) (by decide) (by decide)).trans h1
  refine w_x e12_18 rfl ?_
  exact w_ri e12_19 rfl ⟨rfl, fun n hn0 hn1 hn2 hn3 hn4 hn5 hn6 => ((q4 n (by first | assumption | omega) (by first | assumption | omega) (by first | assumption | omega) (by first | assumption | omega))).trans ((q2 n (by first | assumption | omega) (by first | assumption | omega) (by first | assumption | omega)))⟩
set_option maxRecDepth 100000 in
set_option maxHeartbeats 4000000 in
theorem m_X5_order {vh : vm_H} (h1 : vm_at vh 1 = some (.inr (5, [.ref 2, .ref 6, .ref 55, .int 0, .ref 56, .int 0, .ref 217, .ref 219, .ref 224, .ref 227, .ref 230, .ref 233, .ref 234, .ref 237, .int 0, .int 0, .int 0, .int 0]))) (h2 : vm_at vh 2 = some (.inr (0, [.int 0, .ref 3, .ref 4, .ref 5]))) (a : Int32) (b : Int32) : vm_Rp 1 21 13 [.ref 1, .int a, .int b] vh (fun q vh1 => q = some (.int 0) ∧ vh1 = vh) := by
  refine w_x e13_0 rfl ?_
  refine w_get e13_1 h1 rfl ?_
  refine w_x e13_4 rfl ?_
  refine w_cv (d1 := 0) (w1 := 0) e13_5 rfl h2 rfl (Nat.le_of_ble_eq_true rfl) (Nat.le_of_ble_eq_true rfl) (Nat.le_of_ble_eq_true rfl) (by decide) (by decide) (m_X0_has h2 _) (fun rv1 v1 q2 => ?_)
  obtain ⟨rfl, rfl⟩ := q2
  refine w_if1 e13_8 (by decide) ?_
  refine w_x e13_22 rfl ?_
  exact w_rz e13_23 rfl (by decide) ⟨rfl, rfl⟩
set_option maxRecDepth 100000 in
set_option maxHeartbeats 4000000 in
theorem m_X5_polynomial {vh : vm_H} (h1 : vm_at vh 1 = some (.inr (5, [.ref 2, .ref 6, .ref 55, .int 0, .ref 56, .int 0, .ref 217, .ref 219, .ref 224, .ref 227, .ref 230, .ref 233, .ref 234, .ref 237, .int 0, .int 0, .int 0, .int 0]))) : vm_Rp 0 0 14 [.ref 1] vh (fun q vh1 => q = some (.int 0) ∧ ∀ n, n ≠ 1 → vm_at vh1 n = vm_at vh n) := by
  refine w_x e14_0 rfl ?_
  refine w_get e14_1 h1 rfl ?_
  refine w_x e14_4 rfl ?_
  refine w_ic1 e14_6 (by decide) ?_
  refine w_x e14_11 rfl ?_
  refine w_x e14_12 rfl ?_
  refine w_get e14_13 h1 rfl ?_
  refine w_x e14_16 rfl ?_
  refine w_x e14_17 rfl ?_
  refine w_put e14_18 h1 (by decide) rfl (fun v1 b2 h1 => ?_)
  have h1 : vm_at v1 1 = some (.inr (5, [.ref 2, .ref 6, .ref 55, .int 1, .ref 56, .int 0, .ref 217, .ref 219, .ref 224, .ref 227, .ref 230, .ref 233, .ref 234, .ref 237, .int 0, .int 0, .int 0, .int 0])) := h1
  refine w_x e14_21 rfl ?_
  refine w_get e14_22 h1 rfl ?_
  refine w_x e14_25 rfl ?_
  refine w_x e14_26 rfl ?_
  exact w_ri e14_27 rfl ⟨rfl, fun n hn0 => (b2.2 n (by first | assumption | omega))⟩
set_option maxRecDepth 100000 in
set_option maxHeartbeats 4000000 in
theorem m_X5_hasPolynomial {vh : vm_H} (h1 : vm_at vh 1 = some (.inr (5, [.ref 2, .ref 6, .ref 55, .int 0, .ref 56, .int 0, .ref 217, .ref 219, .ref 224, .ref 227, .ref 230, .ref 233, .ref 234, .ref 237, .int 0, .int 0, .int 0, .int 0]))) (a : Int32) : vm_Rp 0 0 27 [.ref 1, .int a] vh (fun q vh1 => q = some (.int 0) ∧ vh1 = vh) := by
  refine w_x e27_0 rfl ?_
  refine w_ifb e27_1 (fun c1 => ?_) (fun c1 => ?_)
  ·
    refine w_x e27_16 rfl ?_
    exact w_rz e27_17 rfl (by decide) ⟨rfl, rfl⟩
  ·
    refine w_x e27_4 rfl ?_
    refine w_x e27_5 rfl ?_
    refine w_get e27_6 h1 rfl ?_
    refine w_ic1 e27_9 (vm_neg0 c1) ?_
    refine w_x e27_16 rfl ?_
    exact w_rz e27_17 rfl (by decide) ⟨rfl, rfl⟩
set_option maxRecDepth 100000 in
set_option maxHeartbeats 4000000 in
theorem m_X5_hasMember {vh : vm_H} (h1 : vm_at vh 1 = some (.inr (5, [.ref 2, .ref 6, .ref 55, .int 0, .ref 56, .int 0, .ref 217, .ref 219, .ref 224, .ref 227, .ref 230, .ref 233, .ref 234, .ref 237, .int 0, .int 0, .int 0, .int 0]))) (h217 : vm_at vh 217 = some (.inr (4, [.ref 218, .int 0]))) (a : Int32) : vm_Rp 0 0 28 [.ref 1, .int a] vh (fun q vh1 => q = some (.int 0) ∧ vh1 = vh) := by
  refine w_x e28_0 rfl ?_
  refine w_ifb e28_1 (fun c1 => ?_) (fun c1 => ?_)
  ·
    refine w_x e28_19 rfl ?_
    exact w_rz e28_20 rfl (by decide) ⟨rfl, rfl⟩
  ·
    refine w_x e28_4 rfl ?_
    refine w_x e28_5 rfl ?_
    refine w_get e28_6 h1 rfl ?_
    refine w_get e28_9 h217 rfl ?_
    refine w_ic1 e28_12 (vm_neg0 c1) ?_
    refine w_x e28_19 rfl ?_
    exact w_rz e28_20 rfl (by decide) ⟨rfl, rfl⟩
set_option maxRecDepth 100000 in
set_option maxHeartbeats 4000000 in
theorem m_X5_term {vh : vm_H} (h1 : vm_at vh 1 = some (.inr (5, [.ref 2, .ref 6, .ref 55, .int 0, .ref 56, .int 0, .ref 217, .ref 219, .ref 224, .ref 227, .ref 230, .ref 233, .ref 234, .ref 237, .int 0, .int 0, .int 0, .int 0]))) (a : Int32) (b : Int64) (c : Int32) : vm_Rp 1 21 15 [.ref 1, .int a, .long b, .int c] vh (fun q vh1 => q = some (.int 0) ∧ vh1 = vh) := by
  refine w_x e15_0 rfl ?_
  refine w_x e15_1 rfl ?_
  refine w_cv (d1 := 0) (w1 := 0) e15_2 rfl h1 rfl (Nat.le_of_ble_eq_true rfl) (Nat.le_of_ble_eq_true rfl) (Nat.le_of_ble_eq_true rfl) (by decide) (by decide) (m_X5_hasPolynomial h1 _) (fun rv1 v1 q2 => ?_)
  obtain ⟨rfl, rfl⟩ := q2
  refine w_if1 e15_5 (by decide) ?_
  refine w_x e15_20 rfl ?_
  exact w_rz e15_21 rfl (by decide) ⟨rfl, rfl⟩
set_option maxRecDepth 100000 in
set_option maxHeartbeats 4000000 in
theorem m_X5_use {vh : vm_H} (h1 : vm_at vh 1 = some (.inr (5, [.ref 2, .ref 6, .ref 55, .int 0, .ref 56, .int 0, .ref 217, .ref 219, .ref 224, .ref 227, .ref 230, .ref 233, .ref 234, .ref 237, .int 0, .int 0, .int 0, .int 0]))) (a : Int32) (b : Int32) : vm_Rp 1 21 16 [.ref 1, .int a, .int b] vh (fun q vh1 => q = some (.int 0) ∧ vh1 = vh) := by
  refine w_x e16_0 rfl ?_
  refine w_x e16_1 rfl ?_
  refine w_cv (d1 := 0) (w1 := 0) e16_2 rfl h1 rfl (Nat.le_of_ble_eq_true rfl) (Nat.le_of_ble_eq_true rfl) (Nat.le_of_ble_eq_true rfl) (by decide) (by decide) (m_X5_hasPolynomial h1 _) (fun rv1 v1 q2 => ?_)
  obtain ⟨rfl, rfl⟩ := q2
  refine w_if1 e16_5 (by decide) ?_
  refine w_x e16_18 rfl ?_
  exact w_rz e16_19 rfl (by decide) ⟨rfl, rfl⟩
set_option maxRecDepth 100000 in
set_option maxHeartbeats 4000000 in
theorem m_X5_hasSomethingToDecompose {vh : vm_H} (h1 : vm_at vh 1 = some (.inr (5, [.ref 2, .ref 6, .ref 55, .int 0, .ref 56, .int 0, .ref 217, .ref 219, .ref 224, .ref 227, .ref 230, .ref 233, .ref 234, .ref 237, .int 0, .int 0, .int 0, .int 0]))) : vm_Rp 0 0 32 [.ref 1] vh (fun q vh1 => q = some (.int 0) ∧ vh1 = vh) := by
  refine w_x e32_0 rfl ?_
  refine w_x e32_1 rfl ?_
  refine w_x e32_2 rfl ?_
  refine w_x e32_3 rfl ?_
  refine w_get e32_4 h1 rfl ?_
  refine w_ic1 e32_7 (by decide) ?_
  refine w_x e32_26 rfl ?_
  exact w_rz e32_27 rfl (by decide) ⟨rfl, rfl⟩
set_option maxRecDepth 100000 in
set_option maxHeartbeats 4000000 in
theorem m_X5_decompose {vh : vm_H} (h1 : vm_at vh 1 = some (.inr (5, [.ref 2, .ref 6, .ref 55, .int 0, .ref 56, .int 0, .ref 217, .ref 219, .ref 224, .ref 227, .ref 230, .ref 233, .ref 234, .ref 237, .int 0, .int 0, .int 0, .int 0]))) : vm_Rp 1 21 17 [.ref 1] vh (fun q vh1 => q = some (.int (-1)) ∧ vh1 = vh) := by
  refine w_x e17_0 rfl ?_
  refine w_cv (d1 := 0) (w1 := 0) e17_1 rfl h1 rfl (Nat.le_of_ble_eq_true rfl) (Nat.le_of_ble_eq_true rfl) (Nat.le_of_ble_eq_true rfl) (by decide) (by decide) (m_X5_hasSomethingToDecompose h1) (fun rv1 v1 q2 => ?_)
  obtain ⟨rfl, rfl⟩ := q2
  refine w_if0 e17_4 (by decide) ?_
  refine w_x e17_7 rfl ?_
  exact w_ri e17_8 rfl ⟨rfl, rfl⟩
set_option maxRecDepth 100000 in
set_option maxHeartbeats 4000000 in
theorem m_X5_prove {vh : vm_H} (h1 : vm_at vh 1 = some (.inr (5, [.ref 2, .ref 6, .ref 55, .int 0, .ref 56, .int 0, .ref 217, .ref 219, .ref 224, .ref 227, .ref 230, .ref 233, .ref 234, .ref 237, .int 0, .int 0, .int 0, .int 0]))) (a : Int32) : vm_Rp 1 21 18 [.ref 1, .int a] vh (fun q vh1 => q = some (.int (-1)) ∧ vh1 = vh) := by
  refine w_x e18_0 rfl ?_
  refine w_x e18_1 rfl ?_
  refine w_cv (d1 := 0) (w1 := 0) e18_2 rfl h1 rfl (Nat.le_of_ble_eq_true rfl) (Nat.le_of_ble_eq_true rfl) (Nat.le_of_ble_eq_true rfl) (by decide) (by decide) (m_X5_hasPolynomial h1 _) (fun rv1 v1 q2 => ?_)
  obtain ⟨rfl, rfl⟩ := q2
  refine w_if1 e18_5 (by decide) ?_
  refine w_x e18_18 rfl ?_
  exact w_ri e18_19 rfl ⟨rfl, rfl⟩
set_option maxRecDepth 100000 in
set_option maxHeartbeats 4000000 in
theorem m_X5_member {vh : vm_H} (h1 : vm_at vh 1 = some (.inr (5, [.ref 2, .ref 6, .ref 55, .int 0, .ref 56, .int 0, .ref 217, .ref 219, .ref 224, .ref 227, .ref 230, .ref 233, .ref 234, .ref 237, .int 0, .int 0, .int 0, .int 0]))) (h217 : vm_at vh 217 = some (.inr (4, [.ref 218, .int 0]))) (a : Int32) (b : Int32) : vm_Rp 1 21 19 [.ref 1, .int a, .int b] vh (fun q vh1 => q = some (.int (-1)) ∧ vh1 = vh) := by
  refine w_x e19_0 rfl ?_
  refine w_x e19_1 rfl ?_
  refine w_cv (d1 := 0) (w1 := 0) e19_2 rfl h1 rfl (Nat.le_of_ble_eq_true rfl) (Nat.le_of_ble_eq_true rfl) (Nat.le_of_ble_eq_true rfl) (by decide) (by decide) (m_X5_hasMember h1 h217 _) (fun rv1 v1 q2 => ?_)
  obtain ⟨rfl, rfl⟩ := q2
  refine w_if0 e19_5 (by decide) ?_
  refine w_x e19_8 rfl ?_
  exact w_ri e19_9 rfl ⟨rfl, rfl⟩
set_option maxRecDepth 100000 in
set_option maxHeartbeats 4000000 in
theorem m_X5_hypothesisCount {vh : vm_H} (h1 : vm_at vh 1 = some (.inr (5, [.ref 2, .ref 6, .ref 55, .int 0, .ref 56, .int 0, .ref 217, .ref 219, .ref 224, .ref 227, .ref 230, .ref 233, .ref 234, .ref 237, .int 0, .int 0, .int 0, .int 0]))) : vm_Rp 0 0 29 [.ref 1] vh (fun q vh1 => q = some (.int 0) ∧ vh1 = vh) := by
  refine w_x e29_0 rfl ?_
  refine w_x e29_1 rfl ?_
  refine w_x e29_2 rfl ?_
  refine w_x e29_3 rfl ?_
  refine w_x e29_4 rfl ?_
  refine w_x e29_5 rfl ?_
  refine w_get e29_6 h1 rfl ?_
  refine w_ic1 e29_9 (by decide) ?_
  refine w_x e29_30 rfl ?_
  exact w_ri e29_31 rfl ⟨rfl, rfl⟩
set_option maxRecDepth 100000 in
set_option maxHeartbeats 4000000 in
theorem m_X5_point {vh : vm_H} (h1 : vm_at vh 1 = some (.inr (5, [.ref 2, .ref 6, .ref 55, .int 0, .ref 56, .int 0, .ref 217, .ref 219, .ref 224, .ref 227, .ref 230, .ref 233, .ref 234, .ref 237, .int 0, .int 0, .int 0, .int 0]))) (h2 : vm_at vh 2 = some (.inr (0, [.int 0, .ref 3, .ref 4, .ref 5]))) (a : Int32) (b : Int64) : vm_Rp 1 21 23 [.ref 1, .int a, .long b] vh (fun q vh1 => q = some (.int 0) ∧ vh1 = vh) := by
  refine w_x e23_0 rfl ?_
  refine w_get e23_1 h1 rfl ?_
  refine w_x e23_4 rfl ?_
  refine w_cv (d1 := 0) (w1 := 0) e23_5 rfl h2 rfl (Nat.le_of_ble_eq_true rfl) (Nat.le_of_ble_eq_true rfl) (Nat.le_of_ble_eq_true rfl) (by decide) (by decide) (m_X0_has h2 _) (fun rv1 v1 q2 => ?_)
  obtain ⟨rfl, rfl⟩ := q2
  refine w_if0 e23_8 (by decide) ?_
  refine w_x e23_11 rfl ?_
  exact w_rz e23_12 rfl (by decide) ⟨rfl, rfl⟩
set_option maxRecDepth 100000 in
set_option maxHeartbeats 4000000 in
theorem m_X5_quotient {vh : vm_H} (h1 : vm_at vh 1 = some (.inr (5, [.ref 2, .ref 6, .ref 55, .int 0, .ref 56, .int 0, .ref 217, .ref 219, .ref 224, .ref 227, .ref 230, .ref 233, .ref 234, .ref 237, .int 0, .int 0, .int 0, .int 0]))) (h217 : vm_at vh 217 = some (.inr (4, [.ref 218, .int 0]))) (a : Int32) : vm_Rp 1 21 25 [.ref 1, .int a] vh (fun q vh1 => q = some (.long 0) ∧ vh1 = vh) := by
  refine w_x e25_0 rfl ?_
  refine w_x e25_1 rfl ?_
  refine w_cv (d1 := 0) (w1 := 0) e25_2 rfl h1 rfl (Nat.le_of_ble_eq_true rfl) (Nat.le_of_ble_eq_true rfl) (Nat.le_of_ble_eq_true rfl) (by decide) (by decide) (m_X5_hasMember h1 h217 _) (fun rv1 v1 q2 => ?_)
  obtain ⟨rfl, rfl⟩ := q2
  refine w_if0 e25_5 (by decide) ?_
  refine w_x e25_8 rfl ?_
  exact w_rl e25_9 rfl ⟨rfl, rfl⟩
set_option maxRecDepth 100000 in
set_option maxHeartbeats 4000000 in
theorem m_X5_find {vh : vm_H} (h1 : vm_at vh 1 = some (.inr (5, [.ref 2, .ref 6, .ref 55, .int 0, .ref 56, .int 0, .ref 217, .ref 219, .ref 224, .ref 227, .ref 230, .ref 233, .ref 234, .ref 237, .int 0, .int 0, .int 0, .int 0]))) (h217 : vm_at vh 217 = some (.inr (4, [.ref 218, .int 0]))) (a : Int32) (b : Int32) : vm_Rp 1 21 30 [.ref 1, .int a, .int b] vh (fun q vh1 => (q = some .null ∨ q = some (.ref 227) ∨ q = some (.ref 224)) ∧ vh1 = vh) := by
  refine w_x e30_0 rfl ?_
  refine w_ifb e30_1 (fun c1 => ?_) (fun c1 => ?_)
  ·
    refine w_x e30_19 rfl ?_
    refine w_x e30_20 rfl ?_
    refine w_icb e30_21 (fun c2 => ?_) (fun c2 => ?_)
    ·
      refine w_x e30_45 rfl ?_
      refine w_x e30_46 rfl ?_
      refine w_icb e30_47 (fun c3 => ?_) (fun c3 => ?_)
      ·
        refine w_x e30_79 rfl ?_
        refine w_x e30_80 rfl ?_
        refine w_icb e30_81 (fun c4 => ?_) (fun c4 => ?_)
        ·
          refine w_x e30_93 rfl ?_
          refine w_x e30_94 rfl ?_
          refine w_icb e30_95 (fun c5 => ?_) (fun c5 => ?_)
          ·
            refine w_x e30_107 rfl ?_
            exact w_rn e30_108 rfl ⟨by simp, rfl⟩
          ·
            refine w_x e30_98 rfl ?_
            refine w_ifb e30_99 (fun c6 => ?_) (fun c6 => ?_)
            ·
              refine w_x e30_107 rfl ?_
              exact w_rn e30_108 rfl ⟨by simp, rfl⟩
            ·
              refine w_x e30_102 rfl ?_
              refine w_get e30_103 h1 rfl ?_
              exact w_ra e30_106 rfl ⟨by simp, rfl⟩
        ·
          refine w_x e30_84 rfl ?_
          refine w_ifb e30_85 (fun c7 => ?_) (fun c7 => ?_)
          ·
            refine w_x e30_93 rfl ?_
            refine w_x e30_94 rfl ?_
            refine w_icb e30_95 (fun c8 => ?_) (fun c8 => ?_)
            ·
              refine w_x e30_107 rfl ?_
              exact w_rn e30_108 rfl ⟨by simp, rfl⟩
            ·
              refine w_x e30_98 rfl ?_
              refine w_if1 e30_99 c7 ?_
              refine w_x e30_107 rfl ?_
              exact w_rn e30_108 rfl ⟨by simp, rfl⟩
          ·
            refine w_x e30_88 rfl ?_
            refine w_get e30_89 h1 rfl ?_
            exact w_ra e30_92 rfl ⟨by simp, rfl⟩
      ·
        refine w_x e30_50 rfl ?_
        refine w_x e30_51 rfl ?_
        refine w_cv (d1 := 0) (w1 := 0) e30_52 rfl h1 rfl (Nat.le_of_ble_eq_true rfl) (Nat.le_of_ble_eq_true rfl) (Nat.le_of_ble_eq_true rfl) (by decide) (by decide) (m_X5_hasMember h1 h217 _) (fun rv9 v9 q10 => ?_)
        obtain ⟨rfl, rfl⟩ := q10
        refine w_if1 e30_55 (by decide) ?_
        refine w_x e30_79 rfl ?_
        refine w_x e30_80 rfl ?_
        refine w_icb e30_81 (fun c11 => ?_) (fun c11 => ?_)
        ·
          refine w_x e30_93 rfl ?_
          refine w_x e30_94 rfl ?_
          refine w_icb e30_95 (fun c12 => ?_) (fun c12 => ?_)
          ·
            refine w_x e30_107 rfl ?_
            exact w_rn e30_108 rfl ⟨by simp, rfl⟩
          ·
            refine w_x e30_98 rfl ?_
            refine w_ifb e30_99 (fun c13 => ?_) (fun c13 => ?_)
            ·
              refine w_x e30_107 rfl ?_
              exact w_rn e30_108 rfl ⟨by simp, rfl⟩
            ·
              refine w_x e30_102 rfl ?_
              refine w_get e30_103 h1 rfl ?_
              exact w_ra e30_106 rfl ⟨by simp, rfl⟩
        ·
          refine w_x e30_84 rfl ?_
          refine w_ifb e30_85 (fun c14 => ?_) (fun c14 => ?_)
          ·
            refine w_x e30_93 rfl ?_
            refine w_x e30_94 rfl ?_
            refine w_icb e30_95 (fun c15 => ?_) (fun c15 => ?_)
            ·
              refine w_x e30_107 rfl ?_
              exact w_rn e30_108 rfl ⟨by simp, rfl⟩
            ·
              refine w_x e30_98 rfl ?_
              refine w_if1 e30_99 c14 ?_
              refine w_x e30_107 rfl ?_
              exact w_rn e30_108 rfl ⟨by simp, rfl⟩
          ·
            refine w_x e30_88 rfl ?_
            refine w_get e30_89 h1 rfl ?_
            exact w_ra e30_92 rfl ⟨by simp, rfl⟩
    ·
      refine w_x e30_24 rfl ?_
      refine w_x e30_25 rfl ?_
      refine w_cv (d1 := 0) (w1 := 0) e30_26 rfl h1 rfl (Nat.le_of_ble_eq_true rfl) (Nat.le_of_ble_eq_true rfl) (Nat.le_of_ble_eq_true rfl) (by decide) (by decide) (m_X5_hasMember h1 h217 _) (fun rv16 v16 q17 => ?_)
      obtain ⟨rfl, rfl⟩ := q17
      refine w_if1 e30_29 (by decide) ?_
      refine w_x e30_45 rfl ?_
      refine w_x e30_46 rfl ?_
      refine w_icb e30_47 (fun c18 => ?_) (fun c18 => ?_)
      ·
        refine w_x e30_79 rfl ?_
        refine w_x e30_80 rfl ?_
        refine w_icb e30_81 (fun c19 => ?_) (fun c19 => ?_)
        ·
          refine w_x e30_93 rfl ?_
          refine w_x e30_94 rfl ?_
          refine w_icb e30_95 (fun c20 => ?_) (fun c20 => ?_)
          ·
            refine w_x e30_107 rfl ?_
            exact w_rn e30_108 rfl ⟨by simp, rfl⟩
          ·
            refine w_x e30_98 rfl ?_
            refine w_ifb e30_99 (fun c21 => ?_) (fun c21 => ?_)
            ·
              refine w_x e30_107 rfl ?_
              exact w_rn e30_108 rfl ⟨by simp, rfl⟩
            ·
              refine w_x e30_102 rfl ?_
              refine w_get e30_103 h1 rfl ?_
              exact w_ra e30_106 rfl ⟨by simp, rfl⟩
        ·
          refine w_x e30_84 rfl ?_
          refine w_ifb e30_85 (fun c22 => ?_) (fun c22 => ?_)
          ·
            refine w_x e30_93 rfl ?_
            refine w_x e30_94 rfl ?_
            refine w_icb e30_95 (fun c23 => ?_) (fun c23 => ?_)
            ·
              refine w_x e30_107 rfl ?_
              exact w_rn e30_108 rfl ⟨by simp, rfl⟩
            ·
              refine w_x e30_98 rfl ?_
              refine w_if1 e30_99 c22 ?_
              refine w_x e30_107 rfl ?_
              exact w_rn e30_108 rfl ⟨by simp, rfl⟩
          ·
            refine w_x e30_88 rfl ?_
            refine w_get e30_89 h1 rfl ?_
            exact w_ra e30_92 rfl ⟨by simp, rfl⟩
      ·
        refine w_x e30_50 rfl ?_
        refine w_x e30_51 rfl ?_
        refine w_cv (d1 := 0) (w1 := 0) e30_52 rfl h1 rfl (Nat.le_of_ble_eq_true rfl) (Nat.le_of_ble_eq_true rfl) (Nat.le_of_ble_eq_true rfl) (by decide) (by decide) (m_X5_hasMember h1 h217 _) (fun rv24 v24 q25 => ?_)
        obtain ⟨rfl, rfl⟩ := q25
        refine w_if1 e30_55 (by decide) ?_
        refine w_x e30_79 rfl ?_
        refine w_x e30_80 rfl ?_
        refine w_icb e30_81 (fun c26 => ?_) (fun c26 => ?_)
        ·
          refine w_x e30_93 rfl ?_
          refine w_x e30_94 rfl ?_
          refine w_icb e30_95 (fun c27 => ?_) (fun c27 => ?_)
          ·
            refine w_x e30_107 rfl ?_
            exact w_rn e30_108 rfl ⟨by simp, rfl⟩
          ·
            refine w_x e30_98 rfl ?_
            refine w_ifb e30_99 (fun c28 => ?_) (fun c28 => ?_)
            ·
              refine w_x e30_107 rfl ?_
              exact w_rn e30_108 rfl ⟨by simp, rfl⟩
            ·
              refine w_x e30_102 rfl ?_
              refine w_get e30_103 h1 rfl ?_
              exact w_ra e30_106 rfl ⟨by simp, rfl⟩
        ·
          refine w_x e30_84 rfl ?_
          refine w_ifb e30_85 (fun c29 => ?_) (fun c29 => ?_)
          ·
            refine w_x e30_93 rfl ?_
            refine w_x e30_94 rfl ?_
            refine w_icb e30_95 (fun c30 => ?_) (fun c30 => ?_)
            ·
              refine w_x e30_107 rfl ?_
              exact w_rn e30_108 rfl ⟨by simp, rfl⟩
            ·
              refine w_x e30_98 rfl ?_
              refine w_if1 e30_99 c29 ?_
              refine w_x e30_107 rfl ?_
              exact w_rn e30_108 rfl ⟨by simp, rfl⟩
          ·
            refine w_x e30_88 rfl ?_
            refine w_get e30_89 h1 rfl ?_
            exact w_ra e30_92 rfl ⟨by simp, rfl⟩
  ·
    refine w_x e30_4 rfl ?_
    refine w_x e30_5 rfl ?_
    refine w_cv (d1 := 0) (w1 := 0) e30_6 rfl h1 rfl (Nat.le_of_ble_eq_true rfl) (Nat.le_of_ble_eq_true rfl) (Nat.le_of_ble_eq_true rfl) (by decide) (by decide) (m_X5_hasPolynomial h1 _) (fun rv31 v31 q32 => ?_)
    obtain ⟨rfl, rfl⟩ := q32
    refine w_if1 e30_9 (by decide) ?_
    refine w_x e30_19 rfl ?_
    refine w_x e30_20 rfl ?_
    refine w_icb e30_21 (fun c33 => ?_) (fun c33 => ?_)
    ·
      refine w_x e30_45 rfl ?_
      refine w_x e30_46 rfl ?_
      refine w_icb e30_47 (fun c34 => ?_) (fun c34 => ?_)
      ·
        refine w_x e30_79 rfl ?_
        refine w_x e30_80 rfl ?_
        refine w_icb e30_81 (fun c35 => ?_) (fun c35 => ?_)
        ·
          refine w_x e30_93 rfl ?_
          refine w_x e30_94 rfl ?_
          refine w_icb e30_95 (fun c36 => ?_) (fun c36 => ?_)
          ·
            refine w_x e30_107 rfl ?_
            exact w_rn e30_108 rfl ⟨by simp, rfl⟩
          ·
            refine w_x e30_98 rfl ?_
            refine w_ifb e30_99 (fun c37 => ?_) (fun c37 => ?_)
            ·
              refine w_x e30_107 rfl ?_
              exact w_rn e30_108 rfl ⟨by simp, rfl⟩
            ·
              refine w_x e30_102 rfl ?_
              refine w_get e30_103 h1 rfl ?_
              exact w_ra e30_106 rfl ⟨by simp, rfl⟩
        ·
          refine w_x e30_84 rfl ?_
          refine w_ifb e30_85 (fun c38 => ?_) (fun c38 => ?_)
          ·
            refine w_x e30_93 rfl ?_
            refine w_x e30_94 rfl ?_
            refine w_icb e30_95 (fun c39 => ?_) (fun c39 => ?_)
            ·
              refine w_x e30_107 rfl ?_
              exact w_rn e30_108 rfl ⟨by simp, rfl⟩
            ·
              refine w_x e30_98 rfl ?_
              refine w_if1 e30_99 c38 ?_
              refine w_x e30_107 rfl ?_
              exact w_rn e30_108 rfl ⟨by simp, rfl⟩
          ·
            refine w_x e30_88 rfl ?_
            refine w_get e30_89 h1 rfl ?_
            exact w_ra e30_92 rfl ⟨by simp, rfl⟩
      ·
        refine w_x e30_50 rfl ?_
        refine w_x e30_51 rfl ?_
        refine w_cv (d1 := 0) (w1 := 0) e30_52 rfl h1 rfl (Nat.le_of_ble_eq_true rfl) (Nat.le_of_ble_eq_true rfl) (Nat.le_of_ble_eq_true rfl) (by decide) (by decide) (m_X5_hasMember h1 h217 _) (fun rv40 v40 q41 => ?_)
        obtain ⟨rfl, rfl⟩ := q41
        refine w_if1 e30_55 (by decide) ?_
        refine w_x e30_79 rfl ?_
        refine w_x e30_80 rfl ?_
        refine w_icb e30_81 (fun c42 => ?_) (fun c42 => ?_)
        ·
          refine w_x e30_93 rfl ?_
          refine w_x e30_94 rfl ?_
          refine w_icb e30_95 (fun c43 => ?_) (fun c43 => ?_)
          ·
            refine w_x e30_107 rfl ?_
            exact w_rn e30_108 rfl ⟨by simp, rfl⟩
          ·
            refine w_x e30_98 rfl ?_
            refine w_ifb e30_99 (fun c44 => ?_) (fun c44 => ?_)
            ·
              refine w_x e30_107 rfl ?_
              exact w_rn e30_108 rfl ⟨by simp, rfl⟩
            ·
              refine w_x e30_102 rfl ?_
              refine w_get e30_103 h1 rfl ?_
              exact w_ra e30_106 rfl ⟨by simp, rfl⟩
        ·
          refine w_x e30_84 rfl ?_
          refine w_ifb e30_85 (fun c45 => ?_) (fun c45 => ?_)
          ·
            refine w_x e30_93 rfl ?_
            refine w_x e30_94 rfl ?_
            refine w_icb e30_95 (fun c46 => ?_) (fun c46 => ?_)
            ·
              refine w_x e30_107 rfl ?_
              exact w_rn e30_108 rfl ⟨by simp, rfl⟩
            ·
              refine w_x e30_98 rfl ?_
              refine w_if1 e30_99 c45 ?_
              refine w_x e30_107 rfl ?_
              exact w_rn e30_108 rfl ⟨by simp, rfl⟩
          ·
            refine w_x e30_88 rfl ?_
            refine w_get e30_89 h1 rfl ?_
            exact w_ra e30_92 rfl ⟨by simp, rfl⟩
    ·
      refine w_x e30_24 rfl ?_
      refine w_x e30_25 rfl ?_
      refine w_cv (d1 := 0) (w1 := 0) e30_26 rfl h1 rfl (Nat.le_of_ble_eq_true rfl) (Nat.le_of_ble_eq_true rfl) (Nat.le_of_ble_eq_true rfl) (by decide) (by decide) (m_X5_hasMember h1 h217 _) (fun rv47 v47 q48 => ?_)
      obtain ⟨rfl, rfl⟩ := q48
      refine w_if1 e30_29 (by decide) ?_
      refine w_x e30_45 rfl ?_
      refine w_x e30_46 rfl ?_
      refine w_icb e30_47 (fun c49 => ?_) (fun c49 => ?_)
      ·
        refine w_x e30_79 rfl ?_
        refine w_x e30_80 rfl ?_
        refine w_icb e30_81 (fun c50 => ?_) (fun c50 => ?_)
        ·
          refine w_x e30_93 rfl ?_
          refine w_x e30_94 rfl ?_
          refine w_icb e30_95 (fun c51 => ?_) (fun c51 => ?_)
          ·
            refine w_x e30_107 rfl ?_
            exact w_rn e30_108 rfl ⟨by simp, rfl⟩
          ·
            refine w_x e30_98 rfl ?_
            refine w_ifb e30_99 (fun c52 => ?_) (fun c52 => ?_)
            ·
              refine w_x e30_107 rfl ?_
              exact w_rn e30_108 rfl ⟨by simp, rfl⟩
            ·
              refine w_x e30_102 rfl ?_
              refine w_get e30_103 h1 rfl ?_
              exact w_ra e30_106 rfl ⟨by simp, rfl⟩
        ·
          refine w_x e30_84 rfl ?_
          refine w_ifb e30_85 (fun c53 => ?_) (fun c53 => ?_)
          ·
            refine w_x e30_93 rfl ?_
            refine w_x e30_94 rfl ?_
            refine w_icb e30_95 (fun c54 => ?_) (fun c54 => ?_)
            ·
              refine w_x e30_107 rfl ?_
              exact w_rn e30_108 rfl ⟨by simp, rfl⟩
            ·
              refine w_x e30_98 rfl ?_
              refine w_if1 e30_99 c53 ?_
              refine w_x e30_107 rfl ?_
              exact w_rn e30_108 rfl ⟨by simp, rfl⟩
          ·
            refine w_x e30_88 rfl ?_
            refine w_get e30_89 h1 rfl ?_
            exact w_ra e30_92 rfl ⟨by simp, rfl⟩
      ·
        refine w_x e30_50 rfl ?_
        refine w_x e30_51 rfl ?_
        refine w_cv (d1 := 0) (w1 := 0) e30_52 rfl h1 rfl (Nat.le_of_ble_eq_true rfl) (Nat.le_of_ble_eq_true rfl) (Nat.le_of_ble_eq_true rfl) (by decide) (by decide) (m_X5_hasMember h1 h217 _) (fun rv55 v55 q56 => ?_)
        obtain ⟨rfl, rfl⟩ := q56
        refine w_if1 e30_55 (by decide) ?_
        refine w_x e30_79 rfl ?_
        refine w_x e30_80 rfl ?_
        refine w_icb e30_81 (fun c57 => ?_) (fun c57 => ?_)
        ·
          refine w_x e30_93 rfl ?_
          refine w_x e30_94 rfl ?_
          refine w_icb e30_95 (fun c58 => ?_) (fun c58 => ?_)
          ·
            refine w_x e30_107 rfl ?_
            exact w_rn e30_108 rfl ⟨by simp, rfl⟩
          ·
            refine w_x e30_98 rfl ?_
            refine w_ifb e30_99 (fun c59 => ?_) (fun c59 => ?_)
            ·
              refine w_x e30_107 rfl ?_
              exact w_rn e30_108 rfl ⟨by simp, rfl⟩
            ·
              refine w_x e30_102 rfl ?_
              refine w_get e30_103 h1 rfl ?_
              exact w_ra e30_106 rfl ⟨by simp, rfl⟩
        ·
          refine w_x e30_84 rfl ?_
          refine w_ifb e30_85 (fun c60 => ?_) (fun c60 => ?_)
          ·
            refine w_x e30_93 rfl ?_
            refine w_x e30_94 rfl ?_
            refine w_icb e30_95 (fun c61 => ?_) (fun c61 => ?_)
            ·
              refine w_x e30_107 rfl ?_
              exact w_rn e30_108 rfl ⟨by simp, rfl⟩
            ·
              refine w_x e30_98 rfl ?_
              refine w_if1 e30_99 c60 ?_
              refine w_x e30_107 rfl ?_
              exact w_rn e30_108 rfl ⟨by simp, rfl⟩
          ·
            refine w_x e30_88 rfl ?_
            refine w_get e30_89 h1 rfl ?_
            exact w_ra e30_92 rfl ⟨by simp, rfl⟩
set_option maxRecDepth 100000 in
set_option maxHeartbeats 4000000 in
theorem m_hasTerm227 {vh : vm_H} (h227 : vm_at vh 227 = some (.inr (1, [.ref 228, .ref 229, .int 0]))) (a : Int32) : vm_Rp 0 0 7 [.ref 227, .int a] vh (fun q vh1 => q = some (.int 0) ∧ vh1 = vh) := by
  refine w_x e7_0 rfl ?_
  refine w_ifb e7_1 (fun c1 => ?_) (fun c1 => ?_)
  ·
    refine w_x e7_16 rfl ?_
    exact w_rz e7_17 rfl (by decide) ⟨rfl, rfl⟩
  ·
    refine w_x e7_4 rfl ?_
    refine w_x e7_5 rfl ?_
    refine w_get e7_6 h227 rfl ?_
    refine w_ic1 e7_9 (vm_neg0 c1) ?_
    refine w_x e7_16 rfl ?_
    exact w_rz e7_17 rfl (by decide) ⟨rfl, rfl⟩
set_option maxRecDepth 100000 in
set_option maxHeartbeats 4000000 in
theorem m_hasTerm224 {vh : vm_H} (h224 : vm_at vh 224 = some (.inr (1, [.ref 225, .ref 226, .int 0]))) (a : Int32) : vm_Rp 0 0 7 [.ref 224, .int a] vh (fun q vh1 => q = some (.int 0) ∧ vh1 = vh) := by
  refine w_x e7_0 rfl ?_
  refine w_ifb e7_1 (fun c1 => ?_) (fun c1 => ?_)
  ·
    refine w_x e7_16 rfl ?_
    exact w_rz e7_17 rfl (by decide) ⟨rfl, rfl⟩
  ·
    refine w_x e7_4 rfl ?_
    refine w_x e7_5 rfl ?_
    refine w_get e7_6 h224 rfl ?_
    refine w_ic1 e7_9 (vm_neg0 c1) ?_
    refine w_x e7_16 rfl ?_
    exact w_rz e7_17 rfl (by decide) ⟨rfl, rfl⟩
set_option maxRecDepth 100000 in
set_option maxHeartbeats 4000000 in
theorem m_valueOf227 {vh : vm_H} (h2 : vm_at vh 2 = some (.inr (0, [.int 0, .ref 3, .ref 4, .ref 5]))) (h227 : vm_at vh 227 = some (.inr (1, [.ref 228, .ref 229, .int 0]))) : vm_Rp 0 0 4 [.ref 2, .ref 227] vh (fun q vh1 => q = some (.long 0) ∧ vh1 = vh) := by
  refine w_x e4_0 rfl ?_
  refine w_x e4_1 rfl ?_
  refine w_x e4_2 rfl ?_
  refine w_x e4_3 rfl ?_
  refine w_x e4_5 rfl ?_
  refine w_x e4_7 rfl ?_
  refine w_get e4_8 h227 rfl ?_
  refine w_ic1 e4_11 (by decide) ?_
  refine w_x e4_42 rfl ?_
  exact w_rl e4_43 rfl ⟨rfl, rfl⟩
set_option maxRecDepth 100000 in
set_option maxHeartbeats 4000000 in
theorem m_valueOf224 {vh : vm_H} (h2 : vm_at vh 2 = some (.inr (0, [.int 0, .ref 3, .ref 4, .ref 5]))) (h224 : vm_at vh 224 = some (.inr (1, [.ref 225, .ref 226, .int 0]))) : vm_Rp 0 0 4 [.ref 2, .ref 224] vh (fun q vh1 => q = some (.long 0) ∧ vh1 = vh) := by
  refine w_x e4_0 rfl ?_
  refine w_x e4_1 rfl ?_
  refine w_x e4_2 rfl ?_
  refine w_x e4_3 rfl ?_
  refine w_x e4_5 rfl ?_
  refine w_x e4_7 rfl ?_
  refine w_get e4_8 h224 rfl ?_
  refine w_ic1 e4_11 (by decide) ?_
  refine w_x e4_42 rfl ?_
  exact w_rl e4_43 rfl ⟨rfl, rfl⟩
set_option maxRecDepth 100000 in
set_option maxHeartbeats 4000000 in
theorem m_X5_coefficient {vh : vm_H} (h1 : vm_at vh 1 = some (.inr (5, [.ref 2, .ref 6, .ref 55, .int 0, .ref 56, .int 0, .ref 217, .ref 219, .ref 224, .ref 227, .ref 230, .ref 233, .ref 234, .ref 237, .int 0, .int 0, .int 0, .int 0]))) (h217 : vm_at vh 217 = some (.inr (4, [.ref 218, .int 0]))) (h224 : vm_at vh 224 = some (.inr (1, [.ref 225, .ref 226, .int 0]))) (h227 : vm_at vh 227 = some (.inr (1, [.ref 228, .ref 229, .int 0]))) (a : Int32) (b : Int32) (c : Int32) : vm_Rp 2 43 21 [.ref 1, .int a, .int b, .int c] vh (fun q vh1 => q = some (.long 0) ∧ vh1 = vh) := by
  refine w_x e21_0 rfl ?_
  refine w_x e21_1 rfl ?_
  refine w_x e21_2 rfl ?_
  refine w_cv (d1 := 1) (w1 := 21) e21_3 rfl h1 rfl (Nat.le_of_ble_eq_true rfl) (Nat.le_of_ble_eq_true rfl) (Nat.le_of_ble_eq_true rfl) (by decide) (by decide) (m_X5_find h1 h217 _ _) (fun rv1 v1 q2 => ?_)
  obtain ⟨q2, rfl⟩ := q2
  rcases q2 with rfl | rfl | rfl
  ·
    refine w_x e21_6 rfl ?_
    refine w_x e21_8 rfl ?_
    refine w_x e21_10 rfl ?_
    refine w_x e21_22 rfl ?_
    exact w_rl e21_23 rfl ⟨rfl, rfl⟩
  ·
    refine w_x e21_6 rfl ?_
    refine w_x e21_8 rfl ?_
    refine w_x e21_10 rfl ?_
    refine w_x e21_13 rfl ?_
    refine w_x e21_15 rfl ?_
    refine w_cv (d1 := 0) (w1 := 0) e21_16 rfl h227 rfl (Nat.le_of_ble_eq_true rfl) (Nat.le_of_ble_eq_true rfl) (Nat.le_of_ble_eq_true rfl) (by decide) (by decide) (m_hasTerm227 h227 _) (fun rv3 v3 q4 => ?_)
    obtain ⟨rfl, rfl⟩ := q4
    refine w_if0 e21_19 (by decide) ?_
    refine w_x e21_22 rfl ?_
    exact w_rl e21_23 rfl ⟨rfl, rfl⟩
  ·
    refine w_x e21_6 rfl ?_
    refine w_x e21_8 rfl ?_
    refine w_x e21_10 rfl ?_
    refine w_x e21_13 rfl ?_
    refine w_x e21_15 rfl ?_
    refine w_cv (d1 := 0) (w1 := 0) e21_16 rfl h224 rfl (Nat.le_of_ble_eq_true rfl) (Nat.le_of_ble_eq_true rfl) (Nat.le_of_ble_eq_true rfl) (by decide) (by decide) (m_hasTerm224 h224 _) (fun rv5 v5 q6 => ?_)
    obtain ⟨rfl, rfl⟩ := q6
    refine w_if0 e21_19 (by decide) ?_
    refine w_x e21_22 rfl ?_
    exact w_rl e21_23 rfl ⟨rfl, rfl⟩
set_option maxRecDepth 100000 in
set_option maxHeartbeats 4000000 in
theorem m_X5_powers {vh : vm_H} (h1 : vm_at vh 1 = some (.inr (5, [.ref 2, .ref 6, .ref 55, .int 0, .ref 56, .int 0, .ref 217, .ref 219, .ref 224, .ref 227, .ref 230, .ref 233, .ref 234, .ref 237, .int 0, .int 0, .int 0, .int 0]))) (h217 : vm_at vh 217 = some (.inr (4, [.ref 218, .int 0]))) (h224 : vm_at vh 224 = some (.inr (1, [.ref 225, .ref 226, .int 0]))) (h227 : vm_at vh 227 = some (.inr (1, [.ref 228, .ref 229, .int 0]))) (a : Int32) (b : Int32) (c : Int32) : vm_Rp 2 43 22 [.ref 1, .int a, .int b, .int c] vh (fun q vh1 => q = some (.int (-1)) ∧ vh1 = vh) := by
  refine w_x e22_0 rfl ?_
  refine w_x e22_1 rfl ?_
  refine w_x e22_2 rfl ?_
  refine w_cv (d1 := 1) (w1 := 21) e22_3 rfl h1 rfl (Nat.le_of_ble_eq_true rfl) (Nat.le_of_ble_eq_true rfl) (Nat.le_of_ble_eq_true rfl) (by decide) (by decide) (m_X5_find h1 h217 _ _) (fun rv1 v1 q2 => ?_)
  obtain ⟨q2, rfl⟩ := q2
  rcases q2 with rfl | rfl | rfl
  ·
    refine w_x e22_6 rfl ?_
    refine w_x e22_8 rfl ?_
    refine w_x e22_10 rfl ?_
    refine w_x e22_22 rfl ?_
    exact w_ri e22_23 rfl ⟨rfl, rfl⟩
  ·
    refine w_x e22_6 rfl ?_
    refine w_x e22_8 rfl ?_
    refine w_x e22_10 rfl ?_
    refine w_x e22_13 rfl ?_
    refine w_x e22_15 rfl ?_
    refine w_cv (d1 := 0) (w1 := 0) e22_16 rfl h227 rfl (Nat.le_of_ble_eq_true rfl) (Nat.le_of_ble_eq_true rfl) (Nat.le_of_ble_eq_true rfl) (by decide) (by decide) (m_hasTerm227 h227 _) (fun rv3 v3 q4 => ?_)
    obtain ⟨rfl, rfl⟩ := q4
    refine w_if0 e22_19 (by decide) ?_
    refine w_x e22_22 rfl ?_
    exact w_ri e22_23 rfl ⟨rfl, rfl⟩
  ·
    refine w_x e22_6 rfl ?_
    refine w_x e22_8 rfl ?_
    refine w_x e22_10 rfl ?_
    refine w_x e22_13 rfl ?_
    refine w_x e22_15 rfl ?_
    refine w_cv (d1 := 0) (w1 := 0) e22_16 rfl h224 rfl (Nat.le_of_ble_eq_true rfl) (Nat.le_of_ble_eq_true rfl) (Nat.le_of_ble_eq_true rfl) (by decide) (by decide) (m_hasTerm224 h224 _) (fun rv5 v5 q6 => ?_)
    obtain ⟨rfl, rfl⟩ := q6
    refine w_if0 e22_19 (by decide) ?_
    refine w_x e22_22 rfl ?_
    exact w_ri e22_23 rfl ⟨rfl, rfl⟩
set_option maxRecDepth 100000 in
set_option maxHeartbeats 4000000 in
theorem m_X5_value {vh : vm_H} (h1 : vm_at vh 1 = some (.inr (5, [.ref 2, .ref 6, .ref 55, .int 0, .ref 56, .int 0, .ref 217, .ref 219, .ref 224, .ref 227, .ref 230, .ref 233, .ref 234, .ref 237, .int 0, .int 0, .int 0, .int 0]))) (h2 : vm_at vh 2 = some (.inr (0, [.int 0, .ref 3, .ref 4, .ref 5]))) (h217 : vm_at vh 217 = some (.inr (4, [.ref 218, .int 0]))) (h224 : vm_at vh 224 = some (.inr (1, [.ref 225, .ref 226, .int 0]))) (h227 : vm_at vh 227 = some (.inr (1, [.ref 228, .ref 229, .int 0]))) (a : Int32) (b : Int32) : vm_Rp 2 43 24 [.ref 1, .int a, .int b] vh (fun q vh1 => q = some (.long 0) ∧ vh1 = vh) := by
  refine w_x e24_0 rfl ?_
  refine w_x e24_1 rfl ?_
  refine w_x e24_2 rfl ?_
  refine w_cv (d1 := 1) (w1 := 21) e24_3 rfl h1 rfl (Nat.le_of_ble_eq_true rfl) (Nat.le_of_ble_eq_true rfl) (Nat.le_of_ble_eq_true rfl) (by decide) (by decide) (m_X5_find h1 h217 _ _) (fun rv1 v1 q2 => ?_)
  obtain ⟨q2, rfl⟩ := q2
  rcases q2 with rfl | rfl | rfl
  ·
    refine w_x e24_6 rfl ?_
    refine w_x e24_7 rfl ?_
    refine w_x e24_8 rfl ?_
    refine w_x e24_11 rfl ?_
    refine w_x e24_12 rfl ?_
    exact w_rl e24_23 rfl ⟨rfl, rfl⟩
  ·
    refine w_x e24_6 rfl ?_
    refine w_x e24_7 rfl ?_
    refine w_x e24_8 rfl ?_
    refine w_x e24_15 rfl ?_
    refine w_get e24_16 h1 rfl ?_
    refine w_x e24_19 rfl ?_
    refine w_cv (d1 := 0) (w1 := 0) e24_20 rfl h2 rfl (Nat.le_of_ble_eq_true rfl) (Nat.le_of_ble_eq_true rfl) (Nat.le_of_ble_eq_true rfl) (by decide) (by decide) (m_valueOf227 h2 h227) (fun rv3 v3 q4 => ?_)
    obtain ⟨rfl, rfl⟩ := q4
    exact w_rl e24_23 rfl ⟨rfl, rfl⟩
  ·
    refine w_x e24_6 rfl ?_
    refine w_x e24_7 rfl ?_
    refine w_x e24_8 rfl ?_
    refine w_x e24_15 rfl ?_
    refine w_get e24_16 h1 rfl ?_
    refine w_x e24_19 rfl ?_
    refine w_cv (d1 := 0) (w1 := 0) e24_20 rfl h2 rfl (Nat.le_of_ble_eq_true rfl) (Nat.le_of_ble_eq_true rfl) (Nat.le_of_ble_eq_true rfl) (by decide) (by decide) (m_valueOf224 h2 h224) (fun rv5 v5 q6 => ?_)
    obtain ⟨rfl, rfl⟩ := q6
    exact w_rl e24_23 rfl ⟨rfl, rfl⟩
set_option maxRecDepth 100000 in
set_option maxHeartbeats 4000000 in
theorem m_X6_noPoly {vh : vm_H} (h238 : vm_at vh 238 = some (.inr (6, [.int 0, .int 0, .ref 239, .ref 240, .int 0, .ref 241, .ref 242, .ref 243, .ref 244, .ref 245, .int 0, .int 0, .int 0, .int 0, .int 0, .int 0, .int 0, .int 0, .int 0, .int 0, .ref 246, .ref 247, .ref 248, .ref 249, .ref 250, .int 0, .ref 251, .int 0, .int 0, .ref 252, .ref 253, .ref 254, .ref 255, .ref 256, .ref 257, .ref 258, .ref 259, .ref 260, .int 0, .ref 261, .int 0, .int 0, .int 0, .ref 262]))) (a : Int32) : vm_Rp 0 0 37 [.ref 238, .int a] vh (fun q vh1 => q = some (.int 1) ∧ vh1 = vh) := by
  refine w_x e37_0 rfl ?_
  refine w_ifb e37_1 (fun c1 => ?_) (fun c1 => ?_)
  ·
    refine w_x e37_12 rfl ?_
    refine w_x e37_13 rfl ?_
    exact w_rz e37_17 rfl (by decide) ⟨rfl, rfl⟩
  ·
    refine w_x e37_4 rfl ?_
    refine w_x e37_5 rfl ?_
    refine w_get e37_6 h238 rfl ?_
    refine w_ic0 e37_9 c1 ?_
    refine w_x e37_12 rfl ?_
    refine w_x e37_13 rfl ?_
    exact w_rz e37_17 rfl (by decide) ⟨rfl, rfl⟩
set_option maxRecDepth 100000 in
set_option maxHeartbeats 4000000 in
theorem m_X6_noMember {vh : vm_H} (h238 : vm_at vh 238 = some (.inr (6, [.int 0, .int 0, .ref 239, .ref 240, .int 0, .ref 241, .ref 242, .ref 243, .ref 244, .ref 245, .int 0, .int 0, .int 0, .int 0, .int 0, .int 0, .int 0, .int 0, .int 0, .int 0, .ref 246, .ref 247, .ref 248, .ref 249, .ref 250, .int 0, .ref 251, .int 0, .int 0, .ref 252, .ref 253, .ref 254, .ref 255, .ref 256, .ref 257, .ref 258, .ref 259, .ref 260, .int 0, .ref 261, .int 0, .int 0, .int 0, .ref 262]))) (a : Int32) : vm_Rp 0 0 44 [.ref 238, .int a] vh (fun q vh1 => q = some (.int 1) ∧ vh1 = vh) := by
  refine w_x e44_0 rfl ?_
  refine w_ifb e44_1 (fun c1 => ?_) (fun c1 => ?_)
  ·
    refine w_x e44_12 rfl ?_
    refine w_x e44_13 rfl ?_
    exact w_rz e44_17 rfl (by decide) ⟨rfl, rfl⟩
  ·
    refine w_x e44_4 rfl ?_
    refine w_x e44_5 rfl ?_
    refine w_get e44_6 h238 rfl ?_
    refine w_ic0 e44_9 c1 ?_
    refine w_x e44_12 rfl ?_
    refine w_x e44_13 rfl ?_
    exact w_rz e44_17 rfl (by decide) ⟨rfl, rfl⟩
set_option maxRecDepth 100000 in
set_option maxHeartbeats 4000000 in
theorem m_X6_forget {vh : vm_H} (h238 : vm_at vh 238 = some (.inr (6, [.int 0, .int 1, .ref 239, .ref 240, .int 0, .ref 241, .ref 242, .ref 243, .ref 244, .ref 245, .int 0, .int 0, .int 0, .int 0, .int 0, .int 0, .int 0, .int 0, .int 0, .int 0, .ref 246, .ref 247, .ref 248, .ref 249, .ref 250, .int 0, .ref 251, .int 0, .int 0, .ref 252, .ref 253, .ref 254, .ref 255, .ref 256, .ref 257, .ref 258, .ref 259, .ref 260, .int 0, .ref 261, .int 0, .int 0, .int 0, .ref 262]))) : vm_Rp 0 0 35 [.ref 238] vh (fun q vh1 => q = none ∧ vm_at vh1 238 = some (.inr (6, [.int 0, .int 1, .ref 239, .ref 240, .int 0, .ref 241, .ref 242, .ref 243, .ref 244, .ref 245, .int 0, .int 0, .int 0, .int 0, .int 0, .int 0, .int 0, .int 0, .int 0, .int 0, .ref 246, .ref 247, .ref 248, .ref 249, .ref 250, .int 0, .ref 251, .int 0, .int 0, .ref 252, .ref 253, .ref 254, .ref 255, .ref 256, .ref 257, .ref 258, .ref 259, .ref 260, .int 0, .ref 261, .int 0, .int 0, .int 0, .ref 262])) ∧ ∀ n, n ≠ 238 → vm_at vh1 n = vm_at vh n) := by
  refine w_x e35_0 rfl ?_
  refine w_x e35_1 rfl ?_
  refine w_put e35_2 h238 (by decide) rfl (fun v1 b2 h238 => ?_)
  have h238 : vm_at v1 238 = some (.inr (6, [.int 0, .int 1, .ref 239, .ref 240, .int 0, .ref 241, .ref 242, .ref 243, .ref 244, .ref 245, .int 0, .int 0, .int 0, .int 0, .int 0, .int 0, .int 0, .int 0, .int 0, .int 0, .ref 246, .ref 247, .ref 248, .ref 249, .ref 250, .int 0, .ref 251, .int 0, .int 0, .ref 252, .ref 253, .ref 254, .ref 255, .ref 256, .ref 257, .ref 258, .ref 259, .ref 260, .int 0, .ref 261, .int 0, .int 0, .int 0, .ref 262])) := h238
  refine w_x e35_5 rfl ?_
  refine w_x e35_6 rfl ?_
  refine w_put e35_7 h238 (by decide) rfl (fun v3 b4 h238 => ?_)
  have h238 : vm_at v3 238 = some (.inr (6, [.int 0, .int 1, .ref 239, .ref 240, .int 0, .ref 241, .ref 242, .ref 243, .ref 244, .ref 245, .int 0, .int 0, .int 0, .int 0, .int 0, .int 0, .int 0, .int 0, .int 0, .int 0, .ref 246, .ref 247, .ref 248, .ref 249, .ref 250, .int 0, .ref 251, .int 0, .int 0, .ref 252, .ref 253, .ref 254, .ref 255, .ref 256, .ref 257, .ref 258, .ref 259, .ref 260, .int 0, .ref 261, .int 0, .int 0, .int 0, .ref 262])) := h238
  refine w_x e35_10 rfl ?_
  refine w_x e35_11 rfl ?_
  refine w_put e35_12 h238 (by decide) rfl (fun v5 b6 h238 => ?_)
  have h238 : vm_at v5 238 = some (.inr (6, [.int 0, .int 1, .ref 239, .ref 240, .int 0, .ref 241, .ref 242, .ref 243, .ref 244, .ref 245, .int 0, .int 0, .int 0, .int 0, .int 0, .int 0, .int 0, .int 0, .int 0, .int 0, .ref 246, .ref 247, .ref 248, .ref 249, .ref 250, .int 0, .ref 251, .int 0, .int 0, .ref 252, .ref 253, .ref 254, .ref 255, .ref 256, .ref 257, .ref 258, .ref 259, .ref 260, .int 0, .ref 261, .int 0, .int 0, .int 0, .ref 262])) := h238
  refine w_x e35_15 rfl ?_
  refine w_x e35_16 rfl ?_
  refine w_put e35_17 h238 (by decide) rfl (fun v7 b8 h238 => ?_)
  have h238 : vm_at v7 238 = some (.inr (6, [.int 0, .int 1, .ref 239, .ref 240, .int 0, .ref 241, .ref 242, .ref 243, .ref 244, .ref 245, .int 0, .int 0, .int 0, .int 0, .int 0, .int 0, .int 0, .int 0, .int 0, .int 0, .ref 246, .ref 247, .ref 248, .ref 249, .ref 250, .int 0, .ref 251, .int 0, .int 0, .ref 252, .ref 253, .ref 254, .ref 255, .ref 256, .ref 257, .ref 258, .ref 259, .ref 260, .int 0, .ref 261, .int 0, .int 0, .int 0, .ref 262])) := h238
  exact w_rv e35_20 rfl ⟨rfl, h238, fun n hn0 => ((b8.2 n (by first | assumption | omega))).trans (((b6.2 n (by first | assumption | omega))).trans (((b4.2 n (by first | assumption | omega))).trans ((b2.2 n (by first | assumption | omega)))))⟩
set_option maxRecDepth 100000 in
set_option maxHeartbeats 4000000 in
theorem m_X6_variable {vh : vm_H} (h238 : vm_at vh 238 = some (.inr (6, [.int 0, .int 0, .ref 239, .ref 240, .int 0, .ref 241, .ref 242, .ref 243, .ref 244, .ref 245, .int 0, .int 0, .int 0, .int 0, .int 0, .int 0, .int 0, .int 0, .int 0, .int 0, .ref 246, .ref 247, .ref 248, .ref 249, .ref 250, .int 0, .ref 251, .int 0, .int 0, .ref 252, .ref 253, .ref 254, .ref 255, .ref 256, .ref 257, .ref 258, .ref 259, .ref 260, .int 0, .ref 261, .int 0, .int 0, .int 0, .ref 262]))) {f239 : Nat → Int32} (h239 : vm_at vh 239 = some (.inl (2, 8, .inl f239))) {f240 : Nat → Int32} (h240 : vm_at vh 240 = some (.inl (0, 8, .inl f240))) (a : Int32) : vm_Rp 1 20 39 [.ref 238, .int a] vh (fun q vh1 => q = some (.int 0) ∧ ∀ n, n ≠ 238 → n ≠ 239 → n ≠ 240 → vm_at vh1 n = vm_at vh n) := by
  refine w_x e39_0 rfl ?_
  refine w_x e39_1 rfl ?_
  refine w_put e39_2 h238 (by decide) rfl (fun v1 b2 h238 => ?_)
  have h238 : vm_at v1 238 = some (.inr (6, [.int 0, .int 0, .ref 239, .ref 240, .int 0, .ref 241, .ref 242, .ref 243, .ref 244, .ref 245, .int 0, .int 0, .int 0, .int 0, .int 0, .int 0, .int 0, .int 0, .int 0, .int 0, .ref 246, .ref 247, .ref 248, .ref 249, .ref 250, .int 0, .ref 251, .int 0, .int 0, .ref 252, .ref 253, .ref 254, .ref 255, .ref 256, .ref 257, .ref 258, .ref 259, .ref 260, .int 0, .ref 261, .int 0, .int 0, .int 0, .ref 262])) := h238
  have h239 := (b2.2 239 (by decide)).trans h239
  have h240 := (b2.2 240 (by decide)).trans h240
  refine w_x e39_5 rfl ?_
  refine w_get e39_6 h238 rfl ?_
  refine w_x e39_9 rfl ?_
  refine w_ic1 e39_11 (by decide) ?_
  refine w_x e39_16 rfl ?_
  refine w_get e39_17 h238 rfl ?_
  refine w_x e39_20 rfl ?_
  refine w_get e39_21 h238 rfl ?_
  refine w_x e39_24 rfl ?_
  refine w_zst e39_25 h239 (by decide) (fun v4 b5 h239 => ?_)
  have h239 : vm_at v4 239 = some (.inl (2, 8, .inl (upd f239 (Int32.toNatClampNeg 0) (a &&& 1)))) := h239
  have h238 := (b5.2 238 (by decide)).trans h238
  have h240 := (b5.2 240 (by decide)).trans h240
  obtain ⟨f3, h239⟩ : ∃ f, vm_at v4 239 = some (.inl (2, 8, .inl f)) := ⟨_, h239⟩
  refine w_x e39_26 rfl ?_
  refine w_get e39_27 h238 rfl ?_
  refine w_x e39_30 rfl ?_
  refine w_get e39_31 h238 rfl ?_
  refine w_x e39_34 rfl ?_
  refine w_get e39_35 h238 rfl ?_
  refine w_ast e39_38 h240 (by decide) (by decide) (fun v7 b8 h240 => ?_)
  have h240 : vm_at v7 240 = some (.inl (0, 8, .inl (upd f240 (Int32.toNatClampNeg 0) 0))) := h240
  have h238 := (b8.2 238 (by decide)).trans h238
  have h239 := (b8.2 239 (by decide)).trans h239
  obtain ⟨f6, h240⟩ : ∃ f, vm_at v7 240 = some (.inl (0, 8, .inl f)) := ⟨_, h240⟩
  refine w_x e39_39 rfl ?_
  refine w_x e39_40 rfl ?_
  refine w_get e39_41 h238 rfl ?_
  refine w_x e39_44 rfl ?_
  refine w_x e39_45 rfl ?_
  refine w_put e39_46 h238 (by decide) rfl (fun v9 b10 h238 => ?_)
  have h238 : vm_at v9 238 = some (.inr (6, [.int 0, .int 1, .ref 239, .ref 240, .int 0, .ref 241, .ref 242, .ref 243, .ref 244, .ref 245, .int 0, .int 0, .int 0, .int 0, .int 0, .int 0, .int 0, .int 0, .int 0, .int 0, .ref 246, .ref 247, .ref 248, .ref 249, .ref 250, .int 0, .ref 251, .int 0, .int 0, .ref 252, .ref 253, .ref 254, .ref 255, .ref 256, .ref 257, .ref 258, .ref 259, .ref 260, .int 0, .ref 261, .int 0, .int 0, .int 0, .ref 262])) := h238
  have h239 := (b10.2 239 (by decide)).trans h239
  have h240 := (b10.2 240 (by decide)).trans h240
  refine w_x e39_49 rfl ?_
  refine w_cv (d1 := 0) (w1 := 0) e39_50 rfl h238 rfl (Nat.le_of_ble_eq_true rfl) (Nat.le_of_ble_eq_true rfl) (Nat.le_of_ble_eq_true rfl) (by decide) (by decide) (m_X6_forget h238) (fun rv11 v11 q12 => ?_)
  obtain ⟨rfl, h238, q12⟩ := q12
  have h239 := (q12 239 (by decide)).trans h239
  have h240 := (q12 240 (by decide)).trans h240
  refine w_x e39_53 rfl ?_
  refine w_get e39_54 h238 rfl ?_
  refine w_x e39_57 rfl ?_
  refine w_x e39_58 rfl ?_
  exact w_ri e39_59 rfl ⟨rfl, fun n hn0 hn1 hn2 => ((q12 n (by first | assumption | omega))).trans (((b10.2 n (by first | assumption | omega))).trans (((b8.2 n (by first | assumption | omega))).trans (((b5.2 n (by first | assumption | omega))).trans ((b2.2 n (by first | assumption | omega))))))⟩
set_option maxRecDepth 100000 in
set_option maxHeartbeats 4000000 in
theorem m_X6_order {vh : vm_H} (h238 : vm_at vh 238 = some (.inr (6, [.int 0, .int 0, .ref 239, .ref 240, .int 0, .ref 241, .ref 242, .ref 243, .ref 244, .ref 245, .int 0, .int 0, .int 0, .int 0, .int 0, .int 0, .int 0, .int 0, .int 0, .int 0, .ref 246, .ref 247, .ref 248, .ref 249, .ref 250, .int 0, .ref 251, .int 0, .int 0, .ref 252, .ref 253, .ref 254, .ref 255, .ref 256, .ref 257, .ref 258, .ref 259, .ref 260, .int 0, .ref 261, .int 0, .int 0, .int 0, .ref 262]))) (a : Int32) (b : Int32) : vm_Rp 0 0 40 [.ref 238, .int a, .int b] vh (fun q vh1 => q = some (.int 0) ∧ ∀ n, n ≠ 238 → vm_at vh1 n = vm_at vh n) := by
  refine w_x e40_0 rfl ?_
  refine w_x e40_1 rfl ?_
  refine w_put e40_2 h238 (by decide) rfl (fun v1 b2 h238 => ?_)
  have h238 : vm_at v1 238 = some (.inr (6, [.int 0, .int 0, .ref 239, .ref 240, .int 0, .ref 241, .ref 242, .ref 243, .ref 244, .ref 245, .int 0, .int 0, .int 0, .int 0, .int 0, .int 0, .int 0, .int 0, .int 0, .int 0, .ref 246, .ref 247, .ref 248, .ref 249, .ref 250, .int 0, .ref 251, .int 0, .int 0, .ref 252, .ref 253, .ref 254, .ref 255, .ref 256, .ref 257, .ref 258, .ref 259, .ref 260, .int 0, .ref 261, .int 0, .int 0, .int 0, .ref 262])) := h238
  refine w_x e40_5 rfl ?_
  refine w_ifb e40_6 (fun c3 => ?_) (fun c3 => ?_)
  ·
    refine w_x e40_29 rfl ?_
    exact w_rz e40_30 rfl (by decide) ⟨rfl, fun n hn0 => (b2.2 n (by first | assumption | omega))⟩
  ·
    refine w_x e40_9 rfl ?_
    refine w_x e40_10 rfl ?_
    refine w_get e40_11 h238 rfl ?_
    refine w_ic1 e40_14 (vm_neg0 c3) ?_
    refine w_x e40_29 rfl ?_
    exact w_rz e40_30 rfl (by decide) ⟨rfl, fun n hn0 => (b2.2 n (by first | assumption | omega))⟩
set_option maxRecDepth 100000 in
set_option maxHeartbeats 4000000 in
theorem m_X6_polynomial {vh : vm_H} (h238 : vm_at vh 238 = some (.inr (6, [.int 0, .int 0, .ref 239, .ref 240, .int 0, .ref 241, .ref 242, .ref 243, .ref 244, .ref 245, .int 0, .int 0, .int 0, .int 0, .int 0, .int 0, .int 0, .int 0, .int 0, .int 0, .ref 246, .ref 247, .ref 248, .ref 249, .ref 250, .int 0, .ref 251, .int 0, .int 0, .ref 252, .ref 253, .ref 254, .ref 255, .ref 256, .ref 257, .ref 258, .ref 259, .ref 260, .int 0, .ref 261, .int 0, .int 0, .int 0, .ref 262]))) {f241 : Nat → Int32} (h241 : vm_at vh 241 = some (.inl (2, 16, .inl f241))) {f242 : Nat → Int32} (h242 : vm_at vh 242 = some (.inl (0, 72, .inl f242))) : vm_Rp 0 0 41 [.ref 238] vh (fun q vh1 => q = some (.int 0) ∧ ∀ n, n ≠ 238 → n ≠ 241 → n ≠ 242 → vm_at vh1 n = vm_at vh n) := by
  refine w_x e41_0 rfl ?_
  refine w_x e41_1 rfl ?_
  refine w_put e41_2 h238 (by decide) rfl (fun v1 b2 h238 => ?_)
  have h238 : vm_at v1 238 = some (.inr (6, [.int 0, .int 0, .ref 239, .ref 240, .int 0, .ref 241, .ref 242, .ref 243, .ref 244, .ref 245, .int 0, .int 0, .int 0, .int 0, .int 0, .int 0, .int 0, .int 0, .int 0, .int 0, .ref 246, .ref 247, .ref 248, .ref 249, .ref 250, .int 0, .ref 251, .int 0, .int 0, .ref 252, .ref 253, .ref 254, .ref 255, .ref 256, .ref 257, .ref 258, .ref 259, .ref 260, .int 0, .ref 261, .int 0, .int 0, .int 0, .ref 262])) := h238
  have h241 := (b2.2 241 (by decide)).trans h241
  have h242 := (b2.2 242 (by decide)).trans h242
  refine w_x e41_5 rfl ?_
  refine w_get e41_6 h238 rfl ?_
  refine w_x e41_9 rfl ?_
  refine w_ic1 e41_11 (by decide) ?_
  refine w_x e41_16 rfl ?_
  refine w_get e41_17 h238 rfl ?_
  refine w_x e41_20 rfl ?_
  refine w_get e41_21 h238 rfl ?_
  refine w_x e41_24 rfl ?_
  refine w_ast e41_25 h242 (by decide) (by decide) (fun v4 b5 h242 => ?_)
  have h242 : vm_at v4 242 = some (.inl (0, 72, .inl (upd f242 (Int32.toNatClampNeg 0) 0))) := h242
  have h238 := (b5.2 238 (by decide)).trans h238
  have h241 := (b5.2 241 (by decide)).trans h241
  obtain ⟨f3, h242⟩ : ∃ f, vm_at v4 242 = some (.inl (0, 72, .inl f)) := ⟨_, h242⟩
  refine w_x e41_26 rfl ?_
  refine w_get e41_27 h238 rfl ?_
  refine w_x e41_30 rfl ?_
  refine w_get e41_31 h238 rfl ?_
  refine w_x e41_34 rfl ?_
  refine w_zst e41_35 h241 (by decide) (fun v7 b8 h241 => ?_)
  have h241 : vm_at v7 241 = some (.inl (2, 16, .inl (upd f241 (Int32.toNatClampNeg 0) (0 &&& 1)))) := h241
  have h238 := (b8.2 238 (by decide)).trans h238
  have h242 := (b8.2 242 (by decide)).trans h242
  obtain ⟨f6, h241⟩ : ∃ f, vm_at v7 241 = some (.inl (2, 16, .inl f)) := ⟨_, h241⟩
  refine w_x e41_36 rfl ?_
  refine w_x e41_37 rfl ?_
  refine w_get e41_38 h238 rfl ?_
  refine w_x e41_41 rfl ?_
  refine w_x e41_42 rfl ?_
  refine w_put e41_43 h238 (by decide) rfl (fun v9 b10 h238 => ?_)
  have h238 : vm_at v9 238 = some (.inr (6, [.int 0, .int 0, .ref 239, .ref 240, .int 1, .ref 241, .ref 242, .ref 243, .ref 244, .ref 245, .int 0, .int 0, .int 0, .int 0, .int 0, .int 0, .int 0, .int 0, .int 0, .int 0, .ref 246, .ref 247, .ref 248, .ref 249, .ref 250, .int 0, .ref 251, .int 0, .int 0, .ref 252, .ref 253, .ref 254, .ref 255, .ref 256, .ref 257, .ref 258, .ref 259, .ref 260, .int 0, .ref 261, .int 0, .int 0, .int 0, .ref 262])) := h238
  have h241 := (b10.2 241 (by decide)).trans h241
  have h242 := (b10.2 242 (by decide)).trans h242
  refine w_x e41_46 rfl ?_
  refine w_get e41_47 h238 rfl ?_
  refine w_x e41_50 rfl ?_
  refine w_x e41_51 rfl ?_
  exact w_ri e41_52 rfl ⟨rfl, fun n hn0 hn1 hn2 => ((b10.2 n (by first | assumption | omega))).trans (((b8.2 n (by first | assumption | omega))).trans (((b5.2 n (by first | assumption | omega))).trans ((b2.2 n (by first | assumption | omega)))))⟩
set_option maxRecDepth 100000 in
set_option maxHeartbeats 4000000 in
theorem m_X6_term {vh : vm_H} (h238 : vm_at vh 238 = some (.inr (6, [.int 0, .int 0, .ref 239, .ref 240, .int 0, .ref 241, .ref 242, .ref 243, .ref 244, .ref 245, .int 0, .int 0, .int 0, .int 0, .int 0, .int 0, .int 0, .int 0, .int 0, .int 0, .ref 246, .ref 247, .ref 248, .ref 249, .ref 250, .int 0, .ref 251, .int 0, .int 0, .ref 252, .ref 253, .ref 254, .ref 255, .ref 256, .ref 257, .ref 258, .ref 259, .ref 260, .int 0, .ref 261, .int 0, .int 0, .int 0, .ref 262]))) (a : Int32) (b : Int64) (c : Int32) : vm_Rp 1 21 42 [.ref 238, .int a, .long b, .int c] vh (fun q vh1 => q = some (.int 0) ∧ ∀ n, n ≠ 238 → vm_at vh1 n = vm_at vh n) := by
  refine w_x e42_0 rfl ?_
  refine w_x e42_1 rfl ?_
  refine w_put e42_2 h238 (by decide) rfl (fun v1 b2 h238 => ?_)
  have h238 : vm_at v1 238 = some (.inr (6, [.int 0, .int 0, .ref 239, .ref 240, .int 0, .ref 241, .ref 242, .ref 243, .ref 244, .ref 245, .int 0, .int 0, .int 0, .int 0, .int 0, .int 0, .int 0, .int 0, .int 0, .int 0, .ref 246, .ref 247, .ref 248, .ref 249, .ref 250, .int 0, .ref 251, .int 0, .int 0, .ref 252, .ref 253, .ref 254, .ref 255, .ref 256, .ref 257, .ref 258, .ref 259, .ref 260, .int 0, .ref 261, .int 0, .int 0, .int 0, .ref 262])) := h238
  refine w_x e42_5 rfl ?_
  refine w_x e42_6 rfl ?_
  refine w_cv (d1 := 0) (w1 := 0) e42_7 rfl h238 rfl (Nat.le_of_ble_eq_true rfl) (Nat.le_of_ble_eq_true rfl) (Nat.le_of_ble_eq_true rfl) (by decide) (by decide) (m_X6_noPoly h238 _) (fun rv3 v3 q4 => ?_)
  obtain ⟨rfl, rfl⟩ := q4
  refine w_if0 e42_10 (by decide) ?_
  refine w_x e42_13 rfl ?_
  exact w_rz e42_14 rfl (by decide) ⟨rfl, fun n hn0 => (b2.2 n (by first | assumption | omega))⟩
set_option maxRecDepth 100000 in
set_option maxHeartbeats 4000000 in
theorem m_X6_use {vh : vm_H} (h238 : vm_at vh 238 = some (.inr (6, [.int 0, .int 0, .ref 239, .ref 240, .int 0, .ref 241, .ref 242, .ref 243, .ref 244, .ref 245, .int 0, .int 0, .int 0, .int 0, .int 0, .int 0, .int 0, .int 0, .int 0, .int 0, .ref 246, .ref 247, .ref 248, .ref 249, .ref 250, .int 0, .ref 251, .int 0, .int 0, .ref 252, .ref 253, .ref 254, .ref 255, .ref 256, .ref 257, .ref 258, .ref 259, .ref 260, .int 0, .ref 261, .int 0, .int 0, .int 0, .ref 262]))) (a : Int32) (b : Int32) : vm_Rp 1 21 43 [.ref 238, .int a, .int b] vh (fun q vh1 => q = some (.int 0) ∧ ∀ n, n ≠ 238 → vm_at vh1 n = vm_at vh n) := by
  refine w_x e43_0 rfl ?_
  refine w_x e43_1 rfl ?_
  refine w_put e43_2 h238 (by decide) rfl (fun v1 b2 h238 => ?_)
  have h238 : vm_at v1 238 = some (.inr (6, [.int 0, .int 0, .ref 239, .ref 240, .int 0, .ref 241, .ref 242, .ref 243, .ref 244, .ref 245, .int 0, .int 0, .int 0, .int 0, .int 0, .int 0, .int 0, .int 0, .int 0, .int 0, .ref 246, .ref 247, .ref 248, .ref 249, .ref 250, .int 0, .ref 251, .int 0, .int 0, .ref 252, .ref 253, .ref 254, .ref 255, .ref 256, .ref 257, .ref 258, .ref 259, .ref 260, .int 0, .ref 261, .int 0, .int 0, .int 0, .ref 262])) := h238
  refine w_x e43_5 rfl ?_
  refine w_x e43_6 rfl ?_
  refine w_cv (d1 := 0) (w1 := 0) e43_7 rfl h238 rfl (Nat.le_of_ble_eq_true rfl) (Nat.le_of_ble_eq_true rfl) (Nat.le_of_ble_eq_true rfl) (by decide) (by decide) (m_X6_noPoly h238 _) (fun rv3 v3 q4 => ?_)
  obtain ⟨rfl, rfl⟩ := q4
  refine w_if1 e43_10 (by decide) ?_
  refine w_x e43_23 rfl ?_
  exact w_rz e43_24 rfl (by decide) ⟨rfl, fun n hn0 => (b2.2 n (by first | assumption | omega))⟩
set_option maxRecDepth 100000 in
set_option maxHeartbeats 4000000 in
theorem m_X6_decompose {vh : vm_H} (h238 : vm_at vh 238 = some (.inr (6, [.int 0, .int 0, .ref 239, .ref 240, .int 0, .ref 241, .ref 242, .ref 243, .ref 244, .ref 245, .int 0, .int 0, .int 0, .int 0, .int 0, .int 0, .int 0, .int 0, .int 0, .int 0, .ref 246, .ref 247, .ref 248, .ref 249, .ref 250, .int 0, .ref 251, .int 0, .int 0, .ref 252, .ref 253, .ref 254, .ref 255, .ref 256, .ref 257, .ref 258, .ref 259, .ref 260, .int 0, .ref 261, .int 0, .int 0, .int 0, .ref 262]))) : vm_Rp 0 0 36 [.ref 238] vh (fun q vh1 => q = some (.int (-1)) ∧ ∀ n, n ≠ 238 → vm_at vh1 n = vm_at vh n) := by
  refine w_x e36_0 rfl ?_
  refine w_x e36_1 rfl ?_
  refine w_put e36_2 h238 (by decide) rfl (fun v1 b2 h238 => ?_)
  have h238 : vm_at v1 238 = some (.inr (6, [.int 0, .int 0, .ref 239, .ref 240, .int 0, .ref 241, .ref 242, .ref 243, .ref 244, .ref 245, .int 0, .int 0, .int 0, .int 0, .int 0, .int 0, .int 0, .int 0, .int 0, .int 0, .ref 246, .ref 247, .ref 248, .ref 249, .ref 250, .int 0, .ref 251, .int 0, .int 0, .ref 252, .ref 253, .ref 254, .ref 255, .ref 256, .ref 257, .ref 258, .ref 259, .ref 260, .int 0, .ref 261, .int 0, .int 0, .int 0, .ref 262])) := h238
  refine w_x e36_5 rfl ?_
  refine w_x e36_6 rfl ?_
  refine w_x e36_7 rfl ?_
  refine w_x e36_8 rfl ?_
  refine w_x e36_9 rfl ?_
  refine w_x e36_10 rfl ?_
  refine w_get e36_11 h238 rfl ?_
  refine w_ic1 e36_14 (by decide) ?_
  refine w_x e36_49 rfl ?_
  refine w_if0 e36_50 (by decide) ?_
  refine w_x e36_53 rfl ?_
  exact w_ri e36_54 rfl ⟨rfl, fun n hn0 => (b2.2 n (by first | assumption | omega))⟩
set_option maxRecDepth 100000 in
set_option maxHeartbeats 4000000 in
theorem m_X6_prove {vh : vm_H} (h238 : vm_at vh 238 = some (.inr (6, [.int 0, .int 0, .ref 239, .ref 240, .int 0, .ref 241, .ref 242, .ref 243, .ref 244, .ref 245, .int 0, .int 0, .int 0, .int 0, .int 0, .int 0, .int 0, .int 0, .int 0, .int 0, .ref 246, .ref 247, .ref 248, .ref 249, .ref 250, .int 0, .ref 251, .int 0, .int 0, .ref 252, .ref 253, .ref 254, .ref 255, .ref 256, .ref 257, .ref 258, .ref 259, .ref 260, .int 0, .ref 261, .int 0, .int 0, .int 0, .ref 262]))) (a : Int32) : vm_Rp 1 21 38 [.ref 238, .int a] vh (fun q vh1 => q = some (.int (-1)) ∧ ∀ n, n ≠ 238 → vm_at vh1 n = vm_at vh n) := by
  refine w_x e38_0 rfl ?_
  refine w_x e38_1 rfl ?_
  refine w_put e38_2 h238 (by decide) rfl (fun v1 b2 h238 => ?_)
  have h238 : vm_at v1 238 = some (.inr (6, [.int 0, .int 0, .ref 239, .ref 240, .int 0, .ref 241, .ref 242, .ref 243, .ref 244, .ref 245, .int 0, .int 0, .int 0, .int 0, .int 0, .int 0, .int 0, .int 0, .int 0, .int 0, .ref 246, .ref 247, .ref 248, .ref 249, .ref 250, .int 0, .ref 251, .int 0, .int 0, .ref 252, .ref 253, .ref 254, .ref 255, .ref 256, .ref 257, .ref 258, .ref 259, .ref 260, .int 0, .ref 261, .int 0, .int 0, .int 0, .ref 262])) := h238
  refine w_x e38_5 rfl ?_
  refine w_x e38_6 rfl ?_
  refine w_cv (d1 := 0) (w1 := 0) e38_7 rfl h238 rfl (Nat.le_of_ble_eq_true rfl) (Nat.le_of_ble_eq_true rfl) (Nat.le_of_ble_eq_true rfl) (by decide) (by decide) (m_X6_noPoly h238 _) (fun rv3 v3 q4 => ?_)
  obtain ⟨rfl, rfl⟩ := q4
  refine w_if1 e38_10 (by decide) ?_
  refine w_x e38_20 rfl ?_
  exact w_ri e38_21 rfl ⟨rfl, fun n hn0 => (b2.2 n (by first | assumption | omega))⟩
set_option maxRecDepth 100000 in
set_option maxHeartbeats 4000000 in
theorem m_X6_member {vh : vm_H} (h238 : vm_at vh 238 = some (.inr (6, [.int 0, .int 0, .ref 239, .ref 240, .int 0, .ref 241, .ref 242, .ref 243, .ref 244, .ref 245, .int 0, .int 0, .int 0, .int 0, .int 0, .int 0, .int 0, .int 0, .int 0, .int 0, .ref 246, .ref 247, .ref 248, .ref 249, .ref 250, .int 0, .ref 251, .int 0, .int 0, .ref 252, .ref 253, .ref 254, .ref 255, .ref 256, .ref 257, .ref 258, .ref 259, .ref 260, .int 0, .ref 261, .int 0, .int 0, .int 0, .ref 262]))) (a : Int32) (b : Int32) : vm_Rp 1 21 45 [.ref 238, .int a, .int b] vh (fun q vh1 => q = some (.int (-1)) ∧ ∀ n, n ≠ 238 → vm_at vh1 n = vm_at vh n) := by
  refine w_x e45_0 rfl ?_
  refine w_x e45_1 rfl ?_
  refine w_put e45_2 h238 (by decide) rfl (fun v1 b2 h238 => ?_)
  have h238 : vm_at v1 238 = some (.inr (6, [.int 0, .int 0, .ref 239, .ref 240, .int 0, .ref 241, .ref 242, .ref 243, .ref 244, .ref 245, .int 0, .int 0, .int 0, .int 0, .int 0, .int 0, .int 0, .int 0, .int 0, .int 0, .ref 246, .ref 247, .ref 248, .ref 249, .ref 250, .int 0, .ref 251, .int 0, .int 0, .ref 252, .ref 253, .ref 254, .ref 255, .ref 256, .ref 257, .ref 258, .ref 259, .ref 260, .int 0, .ref 261, .int 0, .int 0, .int 0, .ref 262])) := h238
  refine w_x e45_5 rfl ?_
  refine w_x e45_6 rfl ?_
  refine w_cv (d1 := 0) (w1 := 0) e45_7 rfl h238 rfl (Nat.le_of_ble_eq_true rfl) (Nat.le_of_ble_eq_true rfl) (Nat.le_of_ble_eq_true rfl) (by decide) (by decide) (m_X6_noMember h238 _) (fun rv3 v3 q4 => ?_)
  obtain ⟨rfl, rfl⟩ := q4
  refine w_if1 e45_10 (by decide) ?_
  refine w_x e45_22 rfl ?_
  exact w_ri e45_23 rfl ⟨rfl, fun n hn0 => (b2.2 n (by first | assumption | omega))⟩
set_option maxRecDepth 100000 in
set_option maxHeartbeats 4000000 in
theorem m_X6_slotOf {vh : vm_H} (h238 : vm_at vh 238 = some (.inr (6, [.int 0, .int 0, .ref 239, .ref 240, .int 0, .ref 241, .ref 242, .ref 243, .ref 244, .ref 245, .int 0, .int 0, .int 0, .int 0, .int 0, .int 0, .int 0, .int 0, .int 0, .int 0, .ref 246, .ref 247, .ref 248, .ref 249, .ref 250, .int 0, .ref 251, .int 0, .int 0, .ref 252, .ref 253, .ref 254, .ref 255, .ref 256, .ref 257, .ref 258, .ref 259, .ref 260, .int 0, .ref 261, .int 0, .int 0, .int 0, .ref 262]))) (a : Int32) (b : Int32) : vm_Rp 1 21 47 [.ref 238, .int a, .int b] vh (fun q vh1 => q = some (.int (-1)) ∧ vh1 = vh) := by
  refine w_x e47_0 rfl ?_
  refine w_swb 4 (fun hsw => ?_) (fun j1 hj ej => ?_)
  · refine w_swO e47_1 hsw rfl ?_
    refine w_x e47_142 rfl ?_
    exact w_ri e47_143 rfl ⟨rfl, rfl⟩
  · match j1, hj, ej with
    | 0, _, ej =>
      refine w_swI e47_1 (by decide) rfl rfl ?_
      refine w_x e47_36 rfl ?_
      refine w_x e47_37 rfl ?_
      refine w_cv (d1 := 0) (w1 := 0) e47_38 rfl h238 rfl (Nat.le_of_ble_eq_true rfl) (Nat.le_of_ble_eq_true rfl) (Nat.le_of_ble_eq_true rfl) (by decide) (by decide) (m_X6_noPoly h238 _) (fun rv2 v2 q3 => ?_)
      obtain ⟨rfl, rfl⟩ := q3
      refine w_if0 e47_41 (by decide) ?_
      refine w_x e47_44 rfl ?_
      refine w_x e47_45 rfl ?_
      exact w_ri e47_49 rfl ⟨rfl, rfl⟩
    | 1, _, ej =>
      refine w_swI e47_1 (by decide) rfl rfl ?_
      refine w_x e47_50 rfl ?_
      refine w_x e47_51 rfl ?_
      refine w_cv (d1 := 0) (w1 := 0) e47_52 rfl h238 rfl (Nat.le_of_ble_eq_true rfl) (Nat.le_of_ble_eq_true rfl) (Nat.le_of_ble_eq_true rfl) (by decide) (by decide) (m_X6_noMember h238 _) (fun rv4 v4 q5 => ?_)
      obtain ⟨rfl, rfl⟩ := q5
      refine w_if0 e47_55 (by decide) ?_
      refine w_x e47_58 rfl ?_
      refine w_x e47_59 rfl ?_
      exact w_ri e47_66 rfl ⟨rfl, rfl⟩
    | 2, _, ej =>
      refine w_swI e47_1 (by decide) rfl rfl ?_
      refine w_x e47_67 rfl ?_
      refine w_x e47_68 rfl ?_
      refine w_cv (d1 := 0) (w1 := 0) e47_69 rfl h238 rfl (Nat.le_of_ble_eq_true rfl) (Nat.le_of_ble_eq_true rfl) (Nat.le_of_ble_eq_true rfl) (by decide) (by decide) (m_X6_noMember h238 _) (fun rv6 v6 q7 => ?_)
      obtain ⟨rfl, rfl⟩ := q7
      refine w_if0 e47_72 (by decide) ?_
      refine w_x e47_75 rfl ?_
      exact w_ri e47_76 rfl ⟨rfl, rfl⟩
    | 3, _, ej =>
      refine w_swI e47_1 (by decide) rfl rfl ?_
      refine w_x e47_106 rfl ?_
      refine w_ifb e47_107 (fun c8 => ?_) (fun c8 => ?_)
      ·
        refine w_x e47_122 rfl ?_
        exact w_ri e47_123 rfl ⟨rfl, rfl⟩
      ·
        refine w_x e47_110 rfl ?_
        refine w_get e47_111 h238 rfl ?_
        refine w_if1 e47_114 (by decide) ?_
        refine w_x e47_122 rfl ?_
        exact w_ri e47_123 rfl ⟨rfl, rfl⟩
    | 4, _, ej =>
      refine w_swI e47_1 (by decide) rfl rfl ?_
      refine w_x e47_124 rfl ?_
      refine w_ifb e47_125 (fun c9 => ?_) (fun c9 => ?_)
      ·
        refine w_x e47_140 rfl ?_
        exact w_ri e47_141 rfl ⟨rfl, rfl⟩
      ·
        refine w_x e47_128 rfl ?_
        refine w_get e47_129 h238 rfl ?_
        refine w_if1 e47_132 (by decide) ?_
        refine w_x e47_140 rfl ?_
        exact w_ri e47_141 rfl ⟨rfl, rfl⟩
    | q + 5, hj, _ => exact absurd hj (by omega)
set_option maxRecDepth 100000 in
set_option maxHeartbeats 4000000 in
theorem m_X6_coefficient {vh : vm_H} (h238 : vm_at vh 238 = some (.inr (6, [.int 0, .int 0, .ref 239, .ref 240, .int 0, .ref 241, .ref 242, .ref 243, .ref 244, .ref 245, .int 0, .int 0, .int 0, .int 0, .int 0, .int 0, .int 0, .int 0, .int 0, .int 0, .ref 246, .ref 247, .ref 248, .ref 249, .ref 250, .int 0, .ref 251, .int 0, .int 0, .ref 252, .ref 253, .ref 254, .ref 255, .ref 256, .ref 257, .ref 258, .ref 259, .ref 260, .int 0, .ref 261, .int 0, .int 0, .int 0, .ref 262]))) (a : Int32) (b : Int32) (c : Int32) : vm_Rp 2 43 48 [.ref 238, .int a, .int b, .int c] vh (fun q vh1 => q = some (.long 0) ∧ ∀ n, n ≠ 238 → vm_at vh1 n = vm_at vh n) := by
  refine w_x e48_0 rfl ?_
  refine w_x e48_1 rfl ?_
  refine w_put e48_2 h238 (by decide) rfl (fun v1 b2 h238 => ?_)
  have h238 : vm_at v1 238 = some (.inr (6, [.int 0, .int 0, .ref 239, .ref 240, .int 0, .ref 241, .ref 242, .ref 243, .ref 244, .ref 245, .int 0, .int 0, .int 0, .int 0, .int 0, .int 0, .int 0, .int 0, .int 0, .int 0, .ref 246, .ref 247, .ref 248, .ref 249, .ref 250, .int 0, .ref 251, .int 0, .int 0, .ref 252, .ref 253, .ref 254, .ref 255, .ref 256, .ref 257, .ref 258, .ref 259, .ref 260, .int 0, .ref 261, .int 0, .int 0, .int 0, .ref 262])) := h238
  refine w_x e48_5 rfl ?_
  refine w_x e48_6 rfl ?_
  refine w_x e48_7 rfl ?_
  refine w_cv (d1 := 1) (w1 := 21) e48_8 rfl h238 rfl (Nat.le_of_ble_eq_true rfl) (Nat.le_of_ble_eq_true rfl) (Nat.le_of_ble_eq_true rfl) (by decide) (by decide) (m_X6_slotOf h238 _ _) (fun rv3 v3 q4 => ?_)
  obtain ⟨rfl, rfl⟩ := q4
  refine w_x e48_11 rfl ?_
  refine w_x e48_13 rfl ?_
  refine w_if1 e48_15 (by decide) ?_
  refine w_x e48_33 rfl ?_
  refine w_x e48_34 rfl ?_
  exact w_rl e48_49 rfl ⟨rfl, fun n hn0 => (b2.2 n (by first | assumption | omega))⟩
set_option maxRecDepth 100000 in
set_option maxHeartbeats 4000000 in
theorem m_X6_powers {vh : vm_H} (h238 : vm_at vh 238 = some (.inr (6, [.int 0, .int 0, .ref 239, .ref 240, .int 0, .ref 241, .ref 242, .ref 243, .ref 244, .ref 245, .int 0, .int 0, .int 0, .int 0, .int 0, .int 0, .int 0, .int 0, .int 0, .int 0, .ref 246, .ref 247, .ref 248, .ref 249, .ref 250, .int 0, .ref 251, .int 0, .int 0, .ref 252, .ref 253, .ref 254, .ref 255, .ref 256, .ref 257, .ref 258, .ref 259, .ref 260, .int 0, .ref 261, .int 0, .int 0, .int 0, .ref 262]))) (a : Int32) (b : Int32) (c : Int32) : vm_Rp 2 43 49 [.ref 238, .int a, .int b, .int c] vh (fun q vh1 => q = some (.int (-1)) ∧ ∀ n, n ≠ 238 → vm_at vh1 n = vm_at vh n) := by
  refine w_x e49_0 rfl ?_
  refine w_x e49_1 rfl ?_
  refine w_put e49_2 h238 (by decide) rfl (fun v1 b2 h238 => ?_)
  have h238 : vm_at v1 238 = some (.inr (6, [.int 0, .int 0, .ref 239, .ref 240, .int 0, .ref 241, .ref 242, .ref 243, .ref 244, .ref 245, .int 0, .int 0, .int 0, .int 0, .int 0, .int 0, .int 0, .int 0, .int 0, .int 0, .ref 246, .ref 247, .ref 248, .ref 249, .ref 250, .int 0, .ref 251, .int 0, .int 0, .ref 252, .ref 253, .ref 254, .ref 255, .ref 256, .ref 257, .ref 258, .ref 259, .ref 260, .int 0, .ref 261, .int 0, .int 0, .int 0, .ref 262])) := h238
  refine w_x e49_5 rfl ?_
  refine w_x e49_6 rfl ?_
  refine w_x e49_7 rfl ?_
  refine w_cv (d1 := 1) (w1 := 21) e49_8 rfl h238 rfl (Nat.le_of_ble_eq_true rfl) (Nat.le_of_ble_eq_true rfl) (Nat.le_of_ble_eq_true rfl) (by decide) (by decide) (m_X6_slotOf h238 _ _) (fun rv3 v3 q4 => ?_)
  obtain ⟨rfl, rfl⟩ := q4
  refine w_x e49_11 rfl ?_
  refine w_x e49_13 rfl ?_
  refine w_if1 e49_15 (by decide) ?_
  refine w_x e49_33 rfl ?_
  exact w_ri e49_34 rfl ⟨rfl, fun n hn0 => (b2.2 n (by first | assumption | omega))⟩
set_option maxRecDepth 100000 in
set_option maxHeartbeats 4000000 in
theorem m_X6_point {vh : vm_H} (h238 : vm_at vh 238 = some (.inr (6, [.int 0, .int 0, .ref 239, .ref 240, .int 0, .ref 241, .ref 242, .ref 243, .ref 244, .ref 245, .int 0, .int 0, .int 0, .int 0, .int 0, .int 0, .int 0, .int 0, .int 0, .int 0, .ref 246, .ref 247, .ref 248, .ref 249, .ref 250, .int 0, .ref 251, .int 0, .int 0, .ref 252, .ref 253, .ref 254, .ref 255, .ref 256, .ref 257, .ref 258, .ref 259, .ref 260, .int 0, .ref 261, .int 0, .int 0, .int 0, .ref 262]))) (a : Int32) (b : Int64) : vm_Rp 0 0 50 [.ref 238, .int a, .long b] vh (fun q vh1 => q = some (.int 0) ∧ ∀ n, n ≠ 238 → vm_at vh1 n = vm_at vh n) := by
  refine w_x e50_0 rfl ?_
  refine w_x e50_1 rfl ?_
  refine w_put e50_2 h238 (by decide) rfl (fun v1 b2 h238 => ?_)
  have h238 : vm_at v1 238 = some (.inr (6, [.int 0, .int 0, .ref 239, .ref 240, .int 0, .ref 241, .ref 242, .ref 243, .ref 244, .ref 245, .int 0, .int 0, .int 0, .int 0, .int 0, .int 0, .int 0, .int 0, .int 0, .int 0, .ref 246, .ref 247, .ref 248, .ref 249, .ref 250, .int 0, .ref 251, .int 0, .int 0, .ref 252, .ref 253, .ref 254, .ref 255, .ref 256, .ref 257, .ref 258, .ref 259, .ref 260, .int 0, .ref 261, .int 0, .int 0, .int 0, .ref 262])) := h238
  refine w_x e50_5 rfl ?_
  refine w_ifb e50_6 (fun c3 => ?_) (fun c3 => ?_)
  ·
    refine w_x e50_17 rfl ?_
    exact w_rz e50_18 rfl (by decide) ⟨rfl, fun n hn0 => (b2.2 n (by first | assumption | omega))⟩
  ·
    refine w_x e50_9 rfl ?_
    refine w_x e50_10 rfl ?_
    refine w_get e50_11 h238 rfl ?_
    refine w_ic0 e50_14 c3 ?_
    refine w_x e50_17 rfl ?_
    exact w_rz e50_18 rfl (by decide) ⟨rfl, fun n hn0 => (b2.2 n (by first | assumption | omega))⟩
set_option maxRecDepth 100000 in
set_option maxHeartbeats 4000000 in
theorem m_X6_value {vh : vm_H} (h238 : vm_at vh 238 = some (.inr (6, [.int 0, .int 0, .ref 239, .ref 240, .int 0, .ref 241, .ref 242, .ref 243, .ref 244, .ref 245, .int 0, .int 0, .int 0, .int 0, .int 0, .int 0, .int 0, .int 0, .int 0, .int 0, .ref 246, .ref 247, .ref 248, .ref 249, .ref 250, .int 0, .ref 251, .int 0, .int 0, .ref 252, .ref 253, .ref 254, .ref 255, .ref 256, .ref 257, .ref 258, .ref 259, .ref 260, .int 0, .ref 261, .int 0, .int 0, .int 0, .ref 262]))) (a : Int32) (b : Int32) : vm_Rp 2 43 52 [.ref 238, .int a, .int b] vh (fun q vh1 => q = some (.long 0) ∧ ∀ n, n ≠ 238 → vm_at vh1 n = vm_at vh n) := by
  refine w_x e52_0 rfl ?_
  refine w_x e52_1 rfl ?_
  refine w_put e52_2 h238 (by decide) rfl (fun v1 b2 h238 => ?_)
  have h238 : vm_at v1 238 = some (.inr (6, [.int 0, .int 0, .ref 239, .ref 240, .int 0, .ref 241, .ref 242, .ref 243, .ref 244, .ref 245, .int 0, .int 0, .int 0, .int 0, .int 0, .int 0, .int 0, .int 0, .int 0, .int 0, .ref 246, .ref 247, .ref 248, .ref 249, .ref 250, .int 0, .ref 251, .int 0, .int 0, .ref 252, .ref 253, .ref 254, .ref 255, .ref 256, .ref 257, .ref 258, .ref 259, .ref 260, .int 0, .ref 261, .int 0, .int 0, .int 0, .ref 262])) := h238
  refine w_x e52_5 rfl ?_
  refine w_x e52_6 rfl ?_
  refine w_x e52_7 rfl ?_
  refine w_cv (d1 := 1) (w1 := 21) e52_8 rfl h238 rfl (Nat.le_of_ble_eq_true rfl) (Nat.le_of_ble_eq_true rfl) (Nat.le_of_ble_eq_true rfl) (by decide) (by decide) (m_X6_slotOf h238 _ _) (fun rv3 v3 q4 => ?_)
  obtain ⟨rfl, rfl⟩ := q4
  refine w_x e52_11 rfl ?_
  refine w_x e52_12 rfl ?_
  refine w_if0 e52_13 (by decide) ?_
  refine w_x e52_16 rfl ?_
  refine w_x e52_17 rfl ?_
  exact w_rl e52_25 rfl ⟨rfl, fun n hn0 => (b2.2 n (by first | assumption | omega))⟩
set_option maxRecDepth 100000 in
set_option maxHeartbeats 4000000 in
theorem m_X6_quotient {vh : vm_H} (h238 : vm_at vh 238 = some (.inr (6, [.int 0, .int 0, .ref 239, .ref 240, .int 0, .ref 241, .ref 242, .ref 243, .ref 244, .ref 245, .int 0, .int 0, .int 0, .int 0, .int 0, .int 0, .int 0, .int 0, .int 0, .int 0, .ref 246, .ref 247, .ref 248, .ref 249, .ref 250, .int 0, .ref 251, .int 0, .int 0, .ref 252, .ref 253, .ref 254, .ref 255, .ref 256, .ref 257, .ref 258, .ref 259, .ref 260, .int 0, .ref 261, .int 0, .int 0, .int 0, .ref 262]))) (a : Int32) : vm_Rp 1 21 53 [.ref 238, .int a] vh (fun q vh1 => q = some (.long 0) ∧ ∀ n, n ≠ 238 → vm_at vh1 n = vm_at vh n) := by
  refine w_x e53_0 rfl ?_
  refine w_x e53_1 rfl ?_
  refine w_put e53_2 h238 (by decide) rfl (fun v1 b2 h238 => ?_)
  have h238 : vm_at v1 238 = some (.inr (6, [.int 0, .int 0, .ref 239, .ref 240, .int 0, .ref 241, .ref 242, .ref 243, .ref 244, .ref 245, .int 0, .int 0, .int 0, .int 0, .int 0, .int 0, .int 0, .int 0, .int 0, .int 0, .ref 246, .ref 247, .ref 248, .ref 249, .ref 250, .int 0, .ref 251, .int 0, .int 0, .ref 252, .ref 253, .ref 254, .ref 255, .ref 256, .ref 257, .ref 258, .ref 259, .ref 260, .int 0, .ref 261, .int 0, .int 0, .int 0, .ref 262])) := h238
  refine w_x e53_5 rfl ?_
  refine w_x e53_6 rfl ?_
  refine w_cv (d1 := 0) (w1 := 0) e53_7 rfl h238 rfl (Nat.le_of_ble_eq_true rfl) (Nat.le_of_ble_eq_true rfl) (Nat.le_of_ble_eq_true rfl) (by decide) (by decide) (m_X6_noMember h238 _) (fun rv3 v3 q4 => ?_)
  obtain ⟨rfl, rfl⟩ := q4
  refine w_if1 e53_10 (by decide) ?_
  refine w_x e53_20 rfl ?_
  exact w_rl e53_21 rfl ⟨rfl, fun n hn0 => (b2.2 n (by first | assumption | omega))⟩
set_option maxRecDepth 100000 in
set_option maxHeartbeats 4000000 in
theorem m_X5_told {vh : vm_H} (h1 : vm_at vh 1 = some (.inr (5, [.ref 2, .ref 6, .ref 55, .int 0, .ref 56, .int 0, .ref 217, .ref 219, .ref 224, .ref 227, .ref 230, .ref 233, .ref 234, .ref 237, .int 0, .int 0, .int 0, .int 0]))) (h2 : vm_at vh 2 = some (.inr (0, [.int 0, .ref 3, .ref 4, .ref 5]))) (h217 : vm_at vh 217 = some (.inr (4, [.ref 218, .int 0]))) (h224 : vm_at vh 224 = some (.inr (1, [.ref 225, .ref 226, .int 0]))) (h227 : vm_at vh 227 = some (.inr (1, [.ref 228, .ref 229, .int 0]))) (a : Int32) : vm_Rp 1 22 20 [.ref 1, .int a] vh (fun q vh1 => q = some (.int (p_tl a)) ∧ vh1 = vh) := by
  refine w_x e20_0 rfl ?_
  refine w_swb 9 (fun hsw => ?_) (fun j1 hj ej => ?_)
  · refine w_swO e20_1 hsw rfl ?_
    refine w_x e20_118 rfl ?_
    exact w_ri e20_119 rfl ⟨congrArg (fun z => some (Value.int z)) (p_tlO hsw).symm, rfl⟩
  · match j1, hj, ej with
    | 0, _, ej =>
      refine w_swI e20_1 (by decide) rfl rfl ?_
      refine w_x e20_56 rfl ?_
      refine w_get e20_57 h1 rfl ?_
      refine w_get e20_60 h2 rfl ?_
      exact w_ri e20_63 rfl ⟨congrArg (fun z => some (Value.int z)) (p_tlI ej (by decide)).symm, rfl⟩
    | 1, _, ej =>
      refine w_swI e20_1 (by decide) rfl rfl ?_
      refine w_x e20_64 rfl ?_
      refine w_get e20_65 h1 rfl ?_
      exact w_ri e20_68 rfl ⟨congrArg (fun z => some (Value.int z)) (p_tlI ej (by decide)).symm, rfl⟩
    | 2, _, ej =>
      refine w_swI e20_1 (by decide) rfl rfl ?_
      refine w_x e20_69 rfl ?_
      refine w_cv (d1 := 0) (w1 := 0) e20_70 rfl h1 rfl (Nat.le_of_ble_eq_true rfl) (Nat.le_of_ble_eq_true rfl) (Nat.le_of_ble_eq_true rfl) (by decide) (by decide) (m_X5_hypothesisCount h1) (fun rv2 v2 q3 => ?_)
      obtain ⟨rfl, rfl⟩ := q3
      exact w_ri e20_73 rfl ⟨congrArg (fun z => some (Value.int z)) (p_tlI ej (by decide)).symm, rfl⟩
    | 3, _, ej =>
      refine w_swI e20_1 (by decide) rfl rfl ?_
      refine w_x e20_74 rfl ?_
      refine w_get e20_75 h1 rfl ?_
      refine w_get e20_78 h217 rfl ?_
      exact w_ri e20_81 rfl ⟨congrArg (fun z => some (Value.int z)) (p_tlI ej (by decide)).symm, rfl⟩
    | 4, _, ej =>
      refine w_swI e20_1 (by decide) rfl rfl ?_
      refine w_x e20_82 rfl ?_
      refine w_get e20_83 h1 rfl ?_
      exact w_ri e20_86 rfl ⟨congrArg (fun z => some (Value.int z)) (p_tlI ej (by decide)).symm, rfl⟩
    | 5, _, ej =>
      refine w_swI e20_1 (by decide) rfl rfl ?_
      refine w_x e20_87 rfl ?_
      refine w_get e20_88 h1 rfl ?_
      exact w_ri e20_91 rfl ⟨congrArg (fun z => some (Value.int z)) (p_tlI ej (by decide)).symm, rfl⟩
    | 6, _, ej =>
      refine w_swI e20_1 (by decide) rfl rfl ?_
      refine w_x e20_92 rfl ?_
      refine w_get e20_93 h1 rfl ?_
      exact w_ri e20_96 rfl ⟨congrArg (fun z => some (Value.int z)) (p_tlI ej (by decide)).symm, rfl⟩
    | 7, _, ej =>
      refine w_swI e20_1 (by decide) rfl rfl ?_
      refine w_x e20_97 rfl ?_
      refine w_get e20_98 h1 rfl ?_
      exact w_ri e20_101 rfl ⟨congrArg (fun z => some (Value.int z)) (p_tlI ej (by decide)).symm, rfl⟩
    | 8, _, ej =>
      refine w_swI e20_1 (by decide) rfl rfl ?_
      refine w_x e20_102 rfl ?_
      refine w_get e20_103 h1 rfl ?_
      refine w_get e20_106 h224 rfl ?_
      exact w_ri e20_109 rfl ⟨congrArg (fun z => some (Value.int z)) (p_tlI ej (by decide)).symm, rfl⟩
    | 9, _, ej =>
      refine w_swI e20_1 (by decide) rfl rfl ?_
      refine w_x e20_110 rfl ?_
      refine w_get e20_111 h1 rfl ?_
      refine w_get e20_114 h227 rfl ?_
      exact w_ri e20_117 rfl ⟨congrArg (fun z => some (Value.int z)) (p_tlI ej (by decide)).symm, rfl⟩
    | q + 10, hj, _ => exact absurd hj (by omega)
set_option maxRecDepth 100000 in
set_option maxHeartbeats 4000000 in
theorem m_X6_told {vh : vm_H} (h238 : vm_at vh 238 = some (.inr (6, [.int 0, .int 0, .ref 239, .ref 240, .int 0, .ref 241, .ref 242, .ref 243, .ref 244, .ref 245, .int 0, .int 0, .int 0, .int 0, .int 0, .int 0, .int 0, .int 0, .int 0, .int 0, .ref 246, .ref 247, .ref 248, .ref 249, .ref 250, .int 0, .ref 251, .int 0, .int 0, .ref 252, .ref 253, .ref 254, .ref 255, .ref 256, .ref 257, .ref 258, .ref 259, .ref 260, .int 0, .ref 261, .int 0, .int 0, .int 0, .ref 262]))) (a : Int32) : vm_Rp 0 0 46 [.ref 238, .int a] vh (fun q vh1 => q = some (.int (p_tl a)) ∧ ∀ n, n ≠ 238 → vm_at vh1 n = vm_at vh n) := by
  refine w_x e46_0 rfl ?_
  refine w_x e46_1 rfl ?_
  refine w_put e46_2 h238 (by decide) rfl (fun v1 b2 h238 => ?_)
  have h238 : vm_at v1 238 = some (.inr (6, [.int 0, .int 0, .ref 239, .ref 240, .int 0, .ref 241, .ref 242, .ref 243, .ref 244, .ref 245, .int 0, .int 0, .int 0, .int 0, .int 0, .int 0, .int 0, .int 0, .int 0, .int 0, .ref 246, .ref 247, .ref 248, .ref 249, .ref 250, .int 0, .ref 251, .int 0, .int 0, .ref 252, .ref 253, .ref 254, .ref 255, .ref 256, .ref 257, .ref 258, .ref 259, .ref 260, .int 0, .ref 261, .int 0, .int 0, .int 0, .ref 262])) := h238
  refine w_x e46_5 rfl ?_
  refine w_x e46_6 rfl ?_
  refine w_x e46_7 rfl ?_
  refine w_x e46_8 rfl ?_
  refine w_x e46_9 rfl ?_
  refine w_x e46_10 rfl ?_
  refine w_get e46_11 h238 rfl ?_
  refine w_ic1 e46_14 (by decide) ?_
  refine w_x e46_40 rfl ?_
  refine w_swb 9 (fun hsw => ?_) (fun j3 hj ej => ?_)
  · refine w_swO e46_41 hsw rfl ?_
    refine w_x e46_171 rfl ?_
    exact w_ri e46_172 rfl ⟨congrArg (fun z => some (Value.int z)) (p_tlO hsw).symm, fun n hn0 => (b2.2 n (by first | assumption | omega))⟩
  · match j3, hj, ej with
    | 0, _, ej =>
      refine w_swI e46_41 (by decide) rfl rfl ?_
      refine w_x e46_96 rfl ?_
      refine w_get e46_97 h238 rfl ?_
      exact w_ri e46_100 rfl ⟨congrArg (fun z => some (Value.int z)) (p_tlI ej (by decide)).symm, fun n hn0 => (b2.2 n (by first | assumption | omega))⟩
    | 1, _, ej =>
      refine w_swI e46_41 (by decide) rfl rfl ?_
      refine w_x e46_101 rfl ?_
      refine w_get e46_102 h238 rfl ?_
      exact w_ri e46_105 rfl ⟨congrArg (fun z => some (Value.int z)) (p_tlI ej (by decide)).symm, fun n hn0 => (b2.2 n (by first | assumption | omega))⟩
    | 2, _, ej =>
      refine w_swI e46_41 (by decide) rfl rfl ?_
      refine w_x e46_106 rfl ?_
      exact w_ri e46_107 rfl ⟨congrArg (fun z => some (Value.int z)) (p_tlI ej (by decide)).symm, fun n hn0 => (b2.2 n (by first | assumption | omega))⟩
    | 3, _, ej =>
      refine w_swI e46_41 (by decide) rfl rfl ?_
      refine w_x e46_108 rfl ?_
      refine w_get e46_109 h238 rfl ?_
      exact w_ri e46_112 rfl ⟨congrArg (fun z => some (Value.int z)) (p_tlI ej (by decide)).symm, fun n hn0 => (b2.2 n (by first | assumption | omega))⟩
    | 4, _, ej =>
      refine w_swI e46_41 (by decide) rfl rfl ?_
      refine w_x e46_113 rfl ?_
      refine w_get e46_114 h238 rfl ?_
      exact w_ri e46_117 rfl ⟨congrArg (fun z => some (Value.int z)) (p_tlI ej (by decide)).symm, fun n hn0 => (b2.2 n (by first | assumption | omega))⟩
    | 5, _, ej =>
      refine w_swI e46_41 (by decide) rfl rfl ?_
      refine w_x e46_118 rfl ?_
      refine w_get e46_119 h238 rfl ?_
      exact w_ri e46_122 rfl ⟨congrArg (fun z => some (Value.int z)) (p_tlI ej (by decide)).symm, fun n hn0 => (b2.2 n (by first | assumption | omega))⟩
    | 6, _, ej =>
      refine w_swI e46_41 (by decide) rfl rfl ?_
      refine w_x e46_123 rfl ?_
      refine w_get e46_124 h238 rfl ?_
      exact w_ri e46_127 rfl ⟨congrArg (fun z => some (Value.int z)) (p_tlI ej (by decide)).symm, fun n hn0 => (b2.2 n (by first | assumption | omega))⟩
    | 7, _, ej =>
      refine w_swI e46_41 (by decide) rfl rfl ?_
      refine w_x e46_128 rfl ?_
      refine w_get e46_129 h238 rfl ?_
      exact w_ri e46_132 rfl ⟨congrArg (fun z => some (Value.int z)) (p_tlI ej (by decide)).symm, fun n hn0 => (b2.2 n (by first | assumption | omega))⟩
    | 8, _, ej =>
      refine w_swI e46_41 (by decide) rfl rfl ?_
      refine w_x e46_133 rfl ?_
      refine w_get e46_134 h238 rfl ?_
      refine w_if1 e46_137 (by decide) ?_
      refine w_x e46_150 rfl ?_
      exact w_ri e46_151 rfl ⟨congrArg (fun z => some (Value.int z)) (p_tlI ej (by decide)).symm, fun n hn0 => (b2.2 n (by first | assumption | omega))⟩
    | 9, _, ej =>
      refine w_swI e46_41 (by decide) rfl rfl ?_
      refine w_x e46_152 rfl ?_
      refine w_get e46_153 h238 rfl ?_
      refine w_if1 e46_156 (by decide) ?_
      refine w_x e46_169 rfl ?_
      exact w_ri e46_170 rfl ⟨congrArg (fun z => some (Value.int z)) (p_tlI ej (by decide)).symm, fun n hn0 => (b2.2 n (by first | assumption | omega))⟩
    | q + 10, hj, _ => exact absurd hj (by omega)
set_option maxRecDepth 100000 in
set_option maxHeartbeats 4000000 in
theorem m_X5_pseudo {vh : vm_H}  (a : Int64) (b : Int64) (hb0 : ¬ b = 0) : vm_Rp 0 0 26 [.ref 1, .long a, .long b] vh (fun q vh1 => q = some (.long (a <<< (Int32.toInt64 (Int8.ofInt 32).toInt32 &&& 63) / b)) ∧ vh1 = vh) := by
  refine w_x e26_0 rfl ?_
  refine w_x e26_1 rfl ?_
  refine w_x e26_2 rfl ?_
  refine w_if1 e26_3 (p_ne hb0) ?_
  refine w_x e26_16 rfl ?_
  refine w_x e26_17 rfl ?_
  refine w_x e26_19 rfl ?_
  refine w_x e26_20 rfl ?_
  refine w_x e26_21 (by simp only [vm_x]; rw [if_neg hb0]; rfl) ?_
  exact w_rl e26_22 rfl ⟨rfl, rfl⟩
set_option maxRecDepth 100000 in
set_option maxHeartbeats 4000000 in
theorem m_X6_pseudo_n {vh : vm_H} (h238 : vm_at vh 238 = some (.inr (6, [.int 0, .int 0, .ref 239, .ref 240, .int 0, .ref 241, .ref 242, .ref 243, .ref 244, .ref 245, .int 0, .int 0, .int 0, .int 0, .int 0, .int 0, .int 0, .int 0, .int 0, .int 0, .ref 246, .ref 247, .ref 248, .ref 249, .ref 250, .int 0, .ref 251, .int 0, .int 0, .ref 252, .ref 253, .ref 254, .ref 255, .ref 256, .ref 257, .ref 258, .ref 259, .ref 260, .int 0, .ref 261, .int 0, .int 0, .int 0, .ref 262]))) (a : Int64) (b : Int64) (hb0 : ¬ b = 0) : vm_Rp 0 0 54 [.ref 238, .long a, .long b] vh (fun q vh1 => q = some (.long (a <<< (Int32.toInt64 (Int8.ofInt 32).toInt32 &&& 63) / b)) ∧ vm_at vh1 238 = some (.inr (6, [.int 0, .int 0, .ref 239, .ref 240, .int 0, .ref 241, .ref 242, .ref 243, .ref 244, .ref 245, .int 0, .int 0, .int 0, .int 0, .int 0, .int 0, .int 0, .int 0, .int 0, .int 0, .ref 246, .ref 247, .ref 248, .ref 249, .ref 250, .int 0, .ref 251, .int 0, .int 0, .ref 252, .ref 253, .ref 254, .ref 255, .ref 256, .ref 257, .ref 258, .ref 259, .ref 260, .int 0, .ref 261, .int 0, .int 0, .int 0, .ref 262])) ∧ ∀ n, n ≠ 238 → vm_at vh1 n = vm_at vh n) := by
  refine w_x e54_0 rfl ?_
  refine w_x e54_1 rfl ?_
  refine w_x e54_2 rfl ?_
  refine w_x e54_3 rfl ?_
  refine w_if1 e54_4 (p_ne hb0) ?_
  refine w_x e54_11 rfl ?_
  refine w_put e54_12 h238 (by decide) rfl (fun v1 b2 h238 => ?_)
  have h238 : vm_at v1 238 = some (.inr (6, [.int 0, .int 0, .ref 239, .ref 240, .int 0, .ref 241, .ref 242, .ref 243, .ref 244, .ref 245, .int 0, .int 0, .int 0, .int 0, .int 0, .int 0, .int 0, .int 0, .int 0, .int 0, .ref 246, .ref 247, .ref 248, .ref 249, .ref 250, .int 0, .ref 251, .int 0, .int 0, .ref 252, .ref 253, .ref 254, .ref 255, .ref 256, .ref 257, .ref 258, .ref 259, .ref 260, .int 0, .ref 261, .int 0, .int 0, .int 0, .ref 262])) := h238
  refine w_x e54_15 rfl ?_
  refine w_get e54_16 h238 rfl ?_
  refine w_if1 e54_19 (by decide) ?_
  refine w_x e54_26 rfl ?_
  refine w_x e54_27 rfl ?_
  refine w_x e54_29 rfl ?_
  refine w_x e54_30 rfl ?_
  refine w_x e54_31 (by simp only [vm_x]; rw [if_neg hb0]; rfl) ?_
  exact w_rl e54_32 rfl ⟨rfl, h238, fun n hn0 => (b2.2 n (by first | assumption | omega))⟩
set_option maxRecDepth 100000 in
set_option maxHeartbeats 4000000 in
theorem m_X6_pseudo_z {vh : vm_H} (h238 : vm_at vh 238 = some (.inr (6, [.int 0, .int 0, .ref 239, .ref 240, .int 0, .ref 241, .ref 242, .ref 243, .ref 244, .ref 245, .int 0, .int 0, .int 0, .int 0, .int 0, .int 0, .int 0, .int 0, .int 0, .int 0, .ref 246, .ref 247, .ref 248, .ref 249, .ref 250, .int 0, .ref 251, .int 0, .int 0, .ref 252, .ref 253, .ref 254, .ref 255, .ref 256, .ref 257, .ref 258, .ref 259, .ref 260, .int 0, .ref 261, .int 0, .int 0, .int 0, .ref 262]))) (a : Int64) (b : Int64) (hbz : b = 0) : vm_Rp 0 0 54 [.ref 238, .long a, .long b] vh (fun q vh1 => q = some (.long 0) ∧ vm_at vh1 238 = some (.inr (6, [.int 1, .int 0, .ref 239, .ref 240, .int 0, .ref 241, .ref 242, .ref 243, .ref 244, .ref 245, .int 0, .int 0, .int 0, .int 0, .int 0, .int 0, .int 0, .int 0, .int 0, .int 0, .ref 246, .ref 247, .ref 248, .ref 249, .ref 250, .int 0, .ref 251, .int 0, .int 0, .ref 252, .ref 253, .ref 254, .ref 255, .ref 256, .ref 257, .ref 258, .ref 259, .ref 260, .int 0, .ref 261, .int 0, .int 0, .int 0, .ref 262])) ∧ ∀ n, n ≠ 238 → vm_at vh1 n = vm_at vh n) := by
  refine w_x e54_0 rfl ?_
  refine w_x e54_1 rfl ?_
  refine w_x e54_2 rfl ?_
  refine w_x e54_3 rfl ?_
  refine w_if0 e54_4 (p_eq hbz) ?_
  refine w_x e54_7 rfl ?_
  refine w_x e54_8 rfl ?_
  refine w_put e54_12 h238 (by decide) rfl (fun v1 b2 h238 => ?_)
  have h238 : vm_at v1 238 = some (.inr (6, [.int 1, .int 0, .ref 239, .ref 240, .int 0, .ref 241, .ref 242, .ref 243, .ref 244, .ref 245, .int 0, .int 0, .int 0, .int 0, .int 0, .int 0, .int 0, .int 0, .int 0, .int 0, .ref 246, .ref 247, .ref 248, .ref 249, .ref 250, .int 0, .ref 251, .int 0, .int 0, .ref 252, .ref 253, .ref 254, .ref 255, .ref 256, .ref 257, .ref 258, .ref 259, .ref 260, .int 0, .ref 261, .int 0, .int 0, .int 0, .ref 262])) := h238
  refine w_x e54_15 rfl ?_
  refine w_get e54_16 h238 rfl ?_
  refine w_if0 e54_19 (by decide) ?_
  refine w_x e54_22 rfl ?_
  refine w_x e54_23 rfl ?_
  exact w_rl e54_32 rfl ⟨rfl, h238, fun n hn0 => (b2.2 n (by first | assumption | omega))⟩
set_option maxRecDepth 100000 in
set_option maxHeartbeats 4000000 in
theorem m_thrown0 {vh : vm_H} (h238 : vm_at vh 238 = some (.inr (6, [.int 0, .int 0, .ref 239, .ref 240, .int 0, .ref 241, .ref 242, .ref 243, .ref 244, .ref 245, .int 0, .int 0, .int 0, .int 0, .int 0, .int 0, .int 0, .int 0, .int 0, .int 0, .ref 246, .ref 247, .ref 248, .ref 249, .ref 250, .int 0, .ref 251, .int 0, .int 0, .ref 252, .ref 253, .ref 254, .ref 255, .ref 256, .ref 257, .ref 258, .ref 259, .ref 260, .int 0, .ref 261, .int 0, .int 0, .int 0, .ref 262]))) : vm_Rp 0 0 34 [.ref 238] vh (fun q vh1 => q = some (.int 0) ∧ vh1 = vh) := by
  refine w_x e34_0 rfl ?_
  refine w_get e34_1 h238 rfl ?_
  exact w_ri e34_4 rfl ⟨rfl, rfl⟩
set_option maxRecDepth 100000 in
set_option maxHeartbeats 4000000 in
theorem m_thrown1 {vh : vm_H} (h238 : vm_at vh 238 = some (.inr (6, [.int 1, .int 0, .ref 239, .ref 240, .int 0, .ref 241, .ref 242, .ref 243, .ref 244, .ref 245, .int 0, .int 0, .int 0, .int 0, .int 0, .int 0, .int 0, .int 0, .int 0, .int 0, .ref 246, .ref 247, .ref 248, .ref 249, .ref 250, .int 0, .ref 251, .int 0, .int 0, .ref 252, .ref 253, .ref 254, .ref 255, .ref 256, .ref 257, .ref 258, .ref 259, .ref 260, .int 0, .ref 261, .int 0, .int 0, .int 0, .ref 262]))) : vm_Rp 0 0 34 [.ref 238] vh (fun q vh1 => q = some (.int 1) ∧ vh1 = vh) := by
  refine w_x e34_0 rfl ?_
  refine w_get e34_1 h238 rfl ?_
  exact w_ri e34_4 rfl ⟨rfl, rfl⟩
