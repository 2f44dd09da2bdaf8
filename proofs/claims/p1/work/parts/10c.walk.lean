set_option maxRecDepth 100000 in
set_option maxHeartbeats 4000000 in
theorem m_X0_has {vh : vm_H} (h2 : vm_at vh 2 = some (.inr (0, [.int 0, .ref 3, .ref 4, .ref 5]))) (a : Int32) : vm_Rp 0 0 2 [.ref 2, .int a] vh (fun q vh1 => q = some (.int 0) ∧ vh1 = vh) := by
  refine w_x e2_0 rfl ?_
  rcases vm_tf (vm_cond .lt a 0) with c1 | c1
  · refine w_if1 e2_1 c1 ?_
    refine w_x e2_16 rfl ?_
    exact w_rz e2_17 rfl (by decide) ⟨rfl, rfl⟩
  · refine w_if0 e2_1 c1 ?_
    refine w_x e2_4 rfl ?_
    refine w_x e2_5 rfl ?_
    refine w_get e2_6 h2 rfl ?_
    refine w_ic1 e2_9 (vm_neg0 c1) ?_
    refine w_x e2_16 rfl ?_
    exact w_rz e2_17 rfl (by decide) ⟨rfl, rfl⟩
set_option maxRecDepth 100000 in
set_option maxHeartbeats 4000000 in
theorem m_X0_append {vh : vm_H} (h2 : vm_at vh 2 = some (.inr (0, [.int 0, .ref 3, .ref 4, .ref 5]))) {f3 : Nat → Int32} (h3 : vm_at vh 3 = some (.inl (2, 8, .inl f3))) {f5 : Nat → Int32} (h5 : vm_at vh 5 = some (.inl (0, 8, .inl f5))) (a : Int32) : vm_Rp 0 0 3 [.ref 2, .int a] vh (fun q vh1 => q = some (.int 0) ∧ ∀ n, n ≠ 2 → n ≠ 3 → n ≠ 5 → vm_at vh1 n = vm_at vh n) := by
  refine w_x e3_0 rfl ?_
  refine w_get e3_1 h2 rfl ?_
  refine w_x e3_4 rfl ?_
  refine w_ic1 e3_6 (by decide) ?_
  refine w_x e3_11 rfl ?_
  refine w_get e3_12 h2 rfl ?_
  refine w_x e3_15 rfl ?_
  refine w_get e3_16 h2 rfl ?_
  refine w_x e3_19 rfl ?_
  refine w_zst e3_20 h3 (by decide) (fun v2 b3 h3 => ?_)
  have h3 : vm_at v2 3 = some (.inl (2, 8, .inl (upd f3 (Int32.toNatClampNeg 0) (a &&& 1)))) := h3
  have h2 := (b3.2 2 (by decide)).trans h2
  have h5 := (b3.2 5 (by decide)).trans h5
  obtain ⟨f1, h3⟩ : ∃ f, vm_at v2 3 = some (.inl (2, 8, .inl f)) := ⟨_, h3⟩
  refine w_x e3_21 rfl ?_
  refine w_get e3_22 h2 rfl ?_
  refine w_x e3_25 rfl ?_
  refine w_get e3_26 h2 rfl ?_
  refine w_x e3_29 rfl ?_
  refine w_get e3_30 h2 rfl ?_
  refine w_ast e3_33 h5 (by decide) (by decide) (fun v5 b6 h5 => ?_)
  have h5 : vm_at v5 5 = some (.inl (0, 8, .inl (upd f5 (Int32.toNatClampNeg 0) 0))) := h5
  have h2 := (b6.2 2 (by decide)).trans h2
  have h3 := (b6.2 3 (by decide)).trans h3
  obtain ⟨f4, h5⟩ : ∃ f, vm_at v5 5 = some (.inl (0, 8, .inl f)) := ⟨_, h5⟩
  refine w_x e3_34 rfl ?_
  refine w_x e3_35 rfl ?_
  refine w_get e3_36 h2 rfl ?_
  refine w_x e3_39 rfl ?_
  refine w_x e3_40 rfl ?_
  refine w_put e3_41 h2 (by decide) rfl (fun v7 b8 h2 => ?_)
  have h2 : vm_at v7 2 = some (.inr (0, [.int 1, .ref 3, .ref 4, .ref 5])) := h2
  have h3 := (b8.2 3 (by decide)).trans h3
  have h5 := (b8.2 5 (by decide)).trans h5
  refine w_x e3_44 rfl ?_
  refine w_get e3_45 h2 rfl ?_
  refine w_x e3_48 rfl ?_
  refine w_x e3_49 rfl ?_
  exact w_ri e3_50 rfl ⟨rfl, fun n hn0 hn1 hn2 => ((b8.2 n (by first | assumption | omega))).trans (((b6.2 n (by first | assumption | omega))).trans ((b3.2 n (by first | assumption | omega))))⟩
set_option maxRecDepth 100000 in
set_option maxHeartbeats 4000000 in
theorem m_clear227 {vh : vm_H} (h227 : vm_at vh 227 = some (.inr (1, [.ref 228, .ref 229, .int 0]))) : vm_Rp 0 0 6 [.ref 227] vh (fun q vh1 => q = none ∧ ∀ n, n ≠ 227 → vm_at vh1 n = vm_at vh n) := by
  refine w_x e6_0 rfl ?_
  refine w_x e6_1 rfl ?_
  refine w_put e6_2 h227 (by decide) rfl (fun v1 b2 h227 => ?_)
  have h227 : vm_at v1 227 = some (.inr (1, [.ref 228, .ref 229, .int 0])) := h227
  exact w_rv e6_5 rfl ⟨rfl, fun n hn0 => (b2.2 n (by first | assumption | omega))⟩
set_option maxRecDepth 100000 in
set_option maxHeartbeats 4000000 in
theorem m_clear230 {vh : vm_H} (h230 : vm_at vh 230 = some (.inr (1, [.ref 231, .ref 232, .int 0]))) : vm_Rp 0 0 6 [.ref 230] vh (fun q vh1 => q = none ∧ ∀ n, n ≠ 230 → vm_at vh1 n = vm_at vh n) := by
  refine w_x e6_0 rfl ?_
  refine w_x e6_1 rfl ?_
  refine w_put e6_2 h230 (by decide) rfl (fun v1 b2 h230 => ?_)
  have h230 : vm_at v1 230 = some (.inr (1, [.ref 231, .ref 232, .int 0])) := h230
  exact w_rv e6_5 rfl ⟨rfl, fun n hn0 => (b2.2 n (by first | assumption | omega))⟩
set_option maxRecDepth 100000 in
set_option maxHeartbeats 4000000 in
theorem m_J7_fill_53178 {vh : vm_H} {f233 : Nat → Int32} (h233 : vm_at vh 233 = some (.inl (0, 8, .inl f233))) : vm_Rp 0 0 55 [.ref 233, .int 0] vh (fun q vh1 => q = none ∧ ∀ n, n ≠ 233 → vm_at vh1 n = vm_at vh n) := by
  refine w_x e55_0 rfl ?_
  refine w_x e55_1 rfl ?_
  refine w_x e55_2 rfl ?_
  refine w_len e55_3 h233 (by decide) ?_
  refine w_x e55_4 rfl ?_
  refine w_x e55_5 rfl ?_
  refine w_x e55_6 rfl ?_
  refine w_ic0 e55_7 (by decide) ?_
  refine w_x e55_10 rfl ?_
  refine w_x e55_11 rfl ?_
  refine w_x e55_12 rfl ?_
  refine w_ast e55_13 h233 (by decide) (by decide) (fun v2 b3 h233 => ?_)
  have h233 : vm_at v2 233 = some (.inl (0, 8, .inl (upd f233 (Int32.toNatClampNeg 0) 0))) := h233
  obtain ⟨f1, h233⟩ : ∃ f, vm_at v2 233 = some (.inl (0, 8, .inl f)) := ⟨_, h233⟩
  refine w_x e55_14 rfl ?_
  refine w_x e55_17 rfl ?_
  refine w_x e55_5 rfl ?_
  refine w_x e55_6 rfl ?_
  refine w_ic0 e55_7 (by decide) ?_
  refine w_x e55_10 rfl ?_
  refine w_x e55_11 rfl ?_
  refine w_x e55_12 rfl ?_
  refine w_ast e55_13 h233 (by decide) (by decide) (fun v5 b6 h233 => ?_)
  have h233 : vm_at v5 233 = some (.inl (0, 8, .inl (upd f1 (Int32.toNatClampNeg 1) 0))) := h233
  obtain ⟨f4, h233⟩ : ∃ f, vm_at v5 233 = some (.inl (0, 8, .inl f)) := ⟨_, h233⟩
  refine w_x e55_14 rfl ?_
  refine w_x e55_17 rfl ?_
  refine w_x e55_5 rfl ?_
  refine w_x e55_6 rfl ?_
  refine w_ic0 e55_7 (by decide) ?_
  refine w_x e55_10 rfl ?_
  refine w_x e55_11 rfl ?_
  refine w_x e55_12 rfl ?_
  refine w_ast e55_13 h233 (by decide) (by decide) (fun v8 b9 h233 => ?_)
  have h233 : vm_at v8 233 = some (.inl (0, 8, .inl (upd f4 (Int32.toNatClampNeg 2) 0))) := h233
  obtain ⟨f7, h233⟩ : ∃ f, vm_at v8 233 = some (.inl (0, 8, .inl f)) := ⟨_, h233⟩
  refine w_x e55_14 rfl ?_
  refine w_x e55_17 rfl ?_
  refine w_x e55_5 rfl ?_
  refine w_x e55_6 rfl ?_
  refine w_ic0 e55_7 (by decide) ?_
  refine w_x e55_10 rfl ?_
  refine w_x e55_11 rfl ?_
  refine w_x e55_12 rfl ?_
  refine w_ast e55_13 h233 (by decide) (by decide) (fun v11 b12 h233 => ?_)
  have h233 : vm_at v11 233 = some (.inl (0, 8, .inl (upd f7 (Int32.toNatClampNeg 3) 0))) := h233
  obtain ⟨f10, h233⟩ : ∃ f, vm_at v11 233 = some (.inl (0, 8, .inl f)) := ⟨_, h233⟩
  refine w_x e55_14 rfl ?_
  refine w_x e55_17 rfl ?_
  refine w_x e55_5 rfl ?_
  refine w_x e55_6 rfl ?_
  refine w_ic0 e55_7 (by decide) ?_
  refine w_x e55_10 rfl ?_
  refine w_x e55_11 rfl ?_
  refine w_x e55_12 rfl ?_
  refine w_ast e55_13 h233 (by decide) (by decide) (fun v14 b15 h233 => ?_)
  have h233 : vm_at v14 233 = some (.inl (0, 8, .inl (upd f10 (Int32.toNatClampNeg 4) 0))) := h233
  obtain ⟨f13, h233⟩ : ∃ f, vm_at v14 233 = some (.inl (0, 8, .inl f)) := ⟨_, h233⟩
  refine w_x e55_14 rfl ?_
  refine w_x e55_17 rfl ?_
  refine w_x e55_5 rfl ?_
  refine w_x e55_6 rfl ?_
  refine w_ic0 e55_7 (by decide) ?_
  refine w_x e55_10 rfl ?_
  refine w_x e55_11 rfl ?_
  refine w_x e55_12 rfl ?_
  refine w_ast e55_13 h233 (by decide) (by decide) (fun v17 b18 h233 => ?_)
  have h233 : vm_at v17 233 = some (.inl (0, 8, .inl (upd f13 (Int32.toNatClampNeg 5) 0))) := h233
  obtain ⟨f16, h233⟩ : ∃ f, vm_at v17 233 = some (.inl (0, 8, .inl f)) := ⟨_, h233⟩
  refine w_x e55_14 rfl ?_
  refine w_x e55_17 rfl ?_
  refine w_x e55_5 rfl ?_
  refine w_x e55_6 rfl ?_
  refine w_ic0 e55_7 (by decide) ?_
  refine w_x e55_10 rfl ?_
  refine w_x e55_11 rfl ?_
  refine w_x e55_12 rfl ?_
  refine w_ast e55_13 h233 (by decide) (by decide) (fun v20 b21 h233 => ?_)
  have h233 : vm_at v20 233 = some (.inl (0, 8, .inl (upd f16 (Int32.toNatClampNeg 6) 0))) := h233
  obtain ⟨f19, h233⟩ : ∃ f, vm_at v20 233 = some (.inl (0, 8, .inl f)) := ⟨_, h233⟩
  refine w_x e55_14 rfl ?_
  refine w_x e55_17 rfl ?_
  refine w_x e55_5 rfl ?_
  refine w_x e55_6 rfl ?_
  refine w_ic0 e55_7 (by decide) ?_
  refine w_x e55_10 rfl ?_
  refine w_x e55_11 rfl ?_
  refine w_x e55_12 rfl ?_
  refine w_ast e55_13 h233 (by decide) (by decide) (fun v23 b24 h233 => ?_)
  have h233 : vm_at v23 233 = some (.inl (0, 8, .inl (upd f19 (Int32.toNatClampNeg 7) 0))) := h233
  obtain ⟨f22, h233⟩ : ∃ f, vm_at v23 233 = some (.inl (0, 8, .inl f)) := ⟨_, h233⟩
  refine w_x e55_14 rfl ?_
  refine w_x e55_17 rfl ?_
  refine w_x e55_5 rfl ?_
  refine w_x e55_6 rfl ?_
  refine w_ic1 e55_7 (by decide) ?_
  exact w_rv e55_20 rfl ⟨rfl, fun n hn0 => ((b24.2 n (by first | assumption | omega))).trans (((b21.2 n (by first | assumption | omega))).trans (((b18.2 n (by first | assumption | omega))).trans (((b15.2 n (by first | assumption | omega))).trans (((b12.2 n (by first | assumption | omega))).trans (((b9.2 n (by first | assumption | omega))).trans (((b6.2 n (by first | assumption | omega))).trans ((b3.2 n (by first | assumption | omega)))))))))⟩
set_option maxRecDepth 100000 in
set_option maxHeartbeats 4000000 in
theorem m_X5_forgetSet {vh : vm_H} (h1 : vm_at vh 1 = some (.inr (5, [.ref 2, .ref 6, .ref 55, .int 0, .ref 56, .int 0, .ref 217, .ref 219, .ref 224, .ref 227, .ref 230, .ref 233, .ref 234, .ref 237, .int 0, .int 0, .int 0, .int 0]))) (h217 : vm_at vh 217 = some (.inr (4, [.ref 218, .int 0]))) (h227 : vm_at vh 227 = some (.inr (1, [.ref 228, .ref 229, .int 0]))) (h230 : vm_at vh 230 = some (.inr (1, [.ref 231, .ref 232, .int 0]))) {f233 : Nat → Int32} (h233 : vm_at vh 233 = some (.inl (0, 8, .inl f233))) : vm_Rp 1 23 31 [.ref 1] vh (fun q vh1 => q = none ∧ ∀ n, n ≠ 217 → n ≠ 227 → n ≠ 230 → n ≠ 233 → vm_at vh1 n = vm_at vh n) := by
  refine w_x e31_0 rfl ?_
  refine w_get e31_1 h1 rfl ?_
  refine w_x e31_4 rfl ?_
  refine w_put e31_5 h217 (by decide) rfl (fun v1 b2 h217 => ?_)
  have h217 : vm_at v1 217 = some (.inr (4, [.ref 218, .int 0])) := h217
  have h1 := (b2.2 1 (by decide)).trans h1
  have h227 := (b2.2 227 (by decide)).trans h227
  have h230 := (b2.2 230 (by decide)).trans h230
  have h233 := (b2.2 233 (by decide)).trans h233
  refine w_x e31_8 rfl ?_
  refine w_get e31_9 h1 rfl ?_
  refine w_cv (d1 := 0) (w1 := 0) e31_12 rfl h227 rfl (Nat.le_of_ble_eq_true rfl) (Nat.le_of_ble_eq_true rfl) (Nat.le_of_ble_eq_true rfl) (by decide) (by decide) (m_clear227 h227) (fun rv3 v3 q4 => ?_)
  obtain ⟨rfl, q4⟩ := q4
  have h1 := (q4 1 (by decide)).trans h1
  have h217 := (q4 217 (by decide)).trans h217
  have h230 := (q4 230 (by decide)).trans h230
  have h233 := (q4 233 (by decide)).trans h233
  refine w_x e31_15 rfl ?_
  refine w_get e31_16 h1 rfl ?_
  refine w_cv (d1 := 0) (w1 := 0) e31_19 rfl h230 rfl (Nat.le_of_ble_eq_true rfl) (Nat.le_of_ble_eq_true rfl) (Nat.le_of_ble_eq_true rfl) (by decide) (by decide) (m_clear230 h230) (fun rv5 v5 q6 => ?_)
  obtain ⟨rfl, q6⟩ := q6
  have h1 := (q6 1 (by decide)).trans h1
  have h217 := (q6 217 (by decide)).trans h217
  have h233 := (q6 233 (by decide)).trans h233
  refine w_x e31_22 rfl ?_
  refine w_get e31_23 h1 rfl ?_
  refine w_x e31_26 rfl ?_
  refine w_cs (d1 := 0) (w1 := 0) e31_27 (Nat.le_of_ble_eq_true rfl) (Nat.le_of_ble_eq_true rfl) (Nat.le_of_ble_eq_true rfl) (by decide) (by decide) (m_J7_fill_53178 h233) (fun rv7 v7 q8 => ?_)
  obtain ⟨rfl, q8⟩ := q8
  have h1 := (q8 1 (by decide)).trans h1
  have h217 := (q8 217 (by decide)).trans h217
  exact w_rv e31_30 rfl ⟨rfl, fun n hn0 hn1 hn2 hn3 => ((q8 n (by first | assumption | omega))).trans (((q6 n (by first | assumption | omega))).trans (((q4 n (by first | assumption | omega))).trans ((b2.2 n (by first | assumption | omega)))))⟩
set_option maxRecDepth 100000 in
set_option maxHeartbeats 4000000 in
theorem m_X5_variable {vh : vm_H} (h1 : vm_at vh 1 = some (.inr (5, [.ref 2, .ref 6, .ref 55, .int 0, .ref 56, .int 0, .ref 217, .ref 219, .ref 224, .ref 227, .ref 230, .ref 233, .ref 234, .ref 237, .int 0, .int 0, .int 0, .int 0]))) (h2 : vm_at vh 2 = some (.inr (0, [.int 0, .ref 3, .ref 4, .ref 5]))) {f3 : Nat → Int32} (h3 : vm_at vh 3 = some (.inl (2, 8, .inl f3))) {f5 : Nat → Int32} (h5 : vm_at vh 5 = some (.inl (0, 8, .inl f5))) (h217 : vm_at vh 217 = some (.inr (4, [.ref 218, .int 0]))) (h227 : vm_at vh 227 = some (.inr (1, [.ref 228, .ref 229, .int 0]))) (h230 : vm_at vh 230 = some (.inr (1, [.ref 231, .ref 232, .int 0]))) {f233 : Nat → Int32} (h233 : vm_at vh 233 = some (.inl (0, 8, .inl f233))) (a : Int32) : vm_Rp 2 43 12 [.ref 1, .int a] vh (fun q vh1 => q = some (.int 0) ∧ ∀ n, n ≠ 2 → n ≠ 3 → n ≠ 5 → n ≠ 217 → n ≠ 227 → n ≠ 230 → n ≠ 233 → vm_at vh1 n = vm_at vh n) := by
  refine w_x e12_0 rfl ?_
  refine w_get e12_1 h1 rfl ?_
  refine w_x e12_4 rfl ?_
  refine w_cv (d1 := 0) (w1 := 0) e12_5 rfl h2 rfl (Nat.le_of_ble_eq_true rfl) (Nat.le_of_ble_eq_true rfl) (Nat.le_of_ble_eq_true rfl) (by decide) (by decide) (m_X0_append h2 h3 h5 a) (fun rv1 v1 q2 => ?_)
  obtain ⟨rfl, q2⟩ := q2
  have h1 := (q2 1 (by decide) (by decide) (by decide)).trans h1
  have h217 := (q2 217 (by decide) (by decide) (by decide)).trans h217
  have h227 := (q2 227 (by decide) (by decide) (by decide)).trans h227
  have h230 := (q2 230 (by decide) (by decide) (by decide)).trans h230
  have h233 := (q2 233 (by decide) (by decide) (by decide)).trans h233
  refine w_x e12_8 rfl ?_
  refine w_x e12_9 rfl ?_
  refine w_x e12_10 rfl ?_
  refine w_ic0 e12_11 (by decide) ?_
  refine w_x e12_14 rfl ?_
  refine w_cv (d1 := 1) (w1 := 23) e12_15 rfl h1 rfl (Nat.le_of_ble_eq_true rfl) (Nat.le_of_ble_eq_true rfl) (Nat.le_of_ble_eq_true rfl) (by decide) (by decide) (m_X5_forgetSet h1 h217 h227 h230 h233) (fun rv3 v3 q4 => ?_)
  obtain ⟨rfl, q4⟩ := q4
  have h1 := (q4 1 (by decide) (by decide) (by decide) (by decide)).trans h1
  refine w_x e12_18 rfl ?_
  exact w_ri e12_19 rfl ⟨rfl, fun n hn0 hn1 hn2 hn3 hn4 hn5 hn6 => ((q4 n (by first | assumption | omega) (by first | assumption | omega) (by first | assumption | omega) (by first | assumption | omega))).trans ((q2 n (by first | assumption | omega) (by first | assumption | omega) (by first | assumption | omega)))⟩
set_option maxRecDepth 100000 in
set_option maxHeartbeats 4000000 in
theorem m_X5_order {vh : vm_H} (h1 : vm_at vh 1 = some (.inr (5, [.ref 2, .ref 6, .ref 55, .int 0, .ref 56, .int 0, .ref 217, .ref 219, .ref 224, .ref 227, .ref 230, .ref 233, .ref 234, .ref 237, .int 0, .int 0, .int 0, .int 0]))) (h2 : vm_at vh 2 = some (.inr (0, [.int 0, .ref 3, .ref 4, .ref 5]))) (a : Int32) (b : Int32) : vm_Rp 1 21 13 [.ref 1, .int a, .int b] vh (fun q vh1 => q = some (.int 0) ∧ vh1 = vh) := by
  refine w_x e13_0 rfl ?_
  refine w_get e13_1 h1 rfl ?_
  refine w_x e13_4 rfl ?_
  refine w_cv (d1 := 0) (w1 := 0) e13_5 rfl h2 rfl (Nat.le_of_ble_eq_true rfl) (Nat.le_of_ble_eq_true rfl) (Nat.le_of_ble_eq_true rfl) (by decide) (by decide) (m_X0_has h2 a) (fun rv1 v1 q2 => ?_)
  obtain ⟨rfl, rfl⟩ := q2
  refine w_if1 e13_8 (by decide) ?_
  refine w_x e13_22 rfl ?_
  exact w_rz e13_23 rfl (by decide) ⟨rfl, rfl⟩
set_option maxRecDepth 100000 in
set_option maxHeartbeats 4000000 in
theorem m_X5_polynomial {vh : vm_H} (h1 : vm_at vh 1 = some (.inr (5, [.ref 2, .ref 6, .ref 55, .int 0, .ref 56, .int 0, .ref 217, .ref 219, .ref 224, .ref 227, .ref 230, .ref 233, .ref 234, .ref 237, .int 0, .int 0, .int 0, .int 0]))) : vm_Rp 0 0 14 [.ref 1] vh (fun q vh1 => q = some (.int 0) ∧ ∀ n, n ≠ 1 → vm_at vh1 n = vm_at vh n) := by
  refine w_x e14_0 rfl ?_
  refine w_get e14_1 h1 rfl ?_
  refine w_x e14_4 rfl ?_
  refine w_ic1 e14_6 (by decide) ?_
  refine w_x e14_11 rfl ?_
  refine w_x e14_12 rfl ?_
  refine w_get e14_13 h1 rfl ?_
  refine w_x e14_16 rfl ?_
  refine w_x e14_17 rfl ?_
  refine w_put e14_18 h1 (by decide) rfl (fun v1 b2 h1 => ?_)
  have h1 : vm_at v1 1 = some (.inr (5, [.ref 2, .ref 6, .ref 55, .int 1, .ref 56, .int 0, .ref 217, .ref 219, .ref 224, .ref 227, .ref 230, .ref 233, .ref 234, .ref 237, .int 0, .int 0, .int 0, .int 0])) := h1
  refine w_x e14_21 rfl ?_
  refine w_get e14_22 h1 rfl ?_
  refine w_x e14_25 rfl ?_
  refine w_x e14_26 rfl ?_
  exact w_ri e14_27 rfl ⟨rfl, fun n hn0 => (b2.2 n (by first | assumption | omega))⟩
set_option maxRecDepth 100000 in
set_option maxHeartbeats 4000000 in
theorem m_X5_hasPolynomial {vh : vm_H} (h1 : vm_at vh 1 = some (.inr (5, [.ref 2, .ref 6, .ref 55, .int 0, .ref 56, .int 0, .ref 217, .ref 219, .ref 224, .ref 227, .ref 230, .ref 233, .ref 234, .ref 237, .int 0, .int 0, .int 0, .int 0]))) (a : Int32) : vm_Rp 0 0 27 [.ref 1, .int a] vh (fun q vh1 => q = some (.int 0) ∧ vh1 = vh) := by
  refine w_x e27_0 rfl ?_
  rcases vm_tf (vm_cond .lt a 0) with c1 | c1
  · refine w_if1 e27_1 c1 ?_
    refine w_x e27_16 rfl ?_
    exact w_rz e27_17 rfl (by decide) ⟨rfl, rfl⟩
  · refine w_if0 e27_1 c1 ?_
    refine w_x e27_4 rfl ?_
    refine w_x e27_5 rfl ?_
    refine w_get e27_6 h1 rfl ?_
    refine w_ic1 e27_9 (vm_neg0 c1) ?_
    refine w_x e27_16 rfl ?_
    exact w_rz e27_17 rfl (by decide) ⟨rfl, rfl⟩
set_option maxRecDepth 100000 in
set_option maxHeartbeats 4000000 in
theorem m_X5_hasMember {vh : vm_H} (h1 : vm_at vh 1 = some (.inr (5, [.ref 2, .ref 6, .ref 55, .int 0, .ref 56, .int 0, .ref 217, .ref 219, .ref 224, .ref 227, .ref 230, .ref 233, .ref 234, .ref 237, .int 0, .int 0, .int 0, .int 0]))) (h217 : vm_at vh 217 = some (.inr (4, [.ref 218, .int 0]))) (a : Int32) : vm_Rp 0 0 28 [.ref 1, .int a] vh (fun q vh1 => q = some (.int 0) ∧ vh1 = vh) := by
  refine w_x e28_0 rfl ?_
  rcases vm_tf (vm_cond .lt a 0) with c1 | c1
  · refine w_if1 e28_1 c1 ?_
    refine w_x e28_19 rfl ?_
    exact w_rz e28_20 rfl (by decide) ⟨rfl, rfl⟩
  · refine w_if0 e28_1 c1 ?_
    refine w_x e28_4 rfl ?_
    refine w_x e28_5 rfl ?_
    refine w_get e28_6 h1 rfl ?_
    refine w_get e28_9 h217 rfl ?_
    refine w_ic1 e28_12 (vm_neg0 c1) ?_
    refine w_x e28_19 rfl ?_
    exact w_rz e28_20 rfl (by decide) ⟨rfl, rfl⟩
set_option maxRecDepth 100000 in
set_option maxHeartbeats 4000000 in
theorem m_X5_term {vh : vm_H} (h1 : vm_at vh 1 = some (.inr (5, [.ref 2, .ref 6, .ref 55, .int 0, .ref 56, .int 0, .ref 217, .ref 219, .ref 224, .ref 227, .ref 230, .ref 233, .ref 234, .ref 237, .int 0, .int 0, .int 0, .int 0]))) (a : Int32) (b : Int64) (c : Int32) : vm_Rp 1 21 15 [.ref 1, .int a, .long b, .int c] vh (fun q vh1 => q = some (.int 0) ∧ vh1 = vh) := by
  refine w_x e15_0 rfl ?_
  refine w_x e15_1 rfl ?_
  refine w_cv (d1 := 0) (w1 := 0) e15_2 rfl h1 rfl (Nat.le_of_ble_eq_true rfl) (Nat.le_of_ble_eq_true rfl) (Nat.le_of_ble_eq_true rfl) (by decide) (by decide) (m_X5_hasPolynomial h1 a) (fun rv1 v1 q2 => ?_)
  obtain ⟨rfl, rfl⟩ := q2
  refine w_if1 e15_5 (by decide) ?_
  refine w_x e15_20 rfl ?_
  exact w_rz e15_21 rfl (by decide) ⟨rfl, rfl⟩
set_option maxRecDepth 100000 in
set_option maxHeartbeats 4000000 in
theorem m_X5_use {vh : vm_H} (h1 : vm_at vh 1 = some (.inr (5, [.ref 2, .ref 6, .ref 55, .int 0, .ref 56, .int 0, .ref 217, .ref 219, .ref 224, .ref 227, .ref 230, .ref 233, .ref 234, .ref 237, .int 0, .int 0, .int 0, .int 0]))) (a : Int32) (b : Int32) : vm_Rp 1 21 16 [.ref 1, .int a, .int b] vh (fun q vh1 => q = some (.int 0) ∧ vh1 = vh) := by
  refine w_x e16_0 rfl ?_
  refine w_x e16_1 rfl ?_
  refine w_cv (d1 := 0) (w1 := 0) e16_2 rfl h1 rfl (Nat.le_of_ble_eq_true rfl) (Nat.le_of_ble_eq_true rfl) (Nat.le_of_ble_eq_true rfl) (by decide) (by decide) (m_X5_hasPolynomial h1 a) (fun rv1 v1 q2 => ?_)
  obtain ⟨rfl, rfl⟩ := q2
  refine w_if1 e16_5 (by decide) ?_
  refine w_x e16_18 rfl ?_
  exact w_rz e16_19 rfl (by decide) ⟨rfl, rfl⟩
set_option maxRecDepth 100000 in
set_option maxHeartbeats 4000000 in
theorem m_X5_hasSomethingToDecompose {vh : vm_H} (h1 : vm_at vh 1 = some (.inr (5, [.ref 2, .ref 6, .ref 55, .int 0, .ref 56, .int 0, .ref 217, .ref 219, .ref 224, .ref 227, .ref 230, .ref 233, .ref 234, .ref 237, .int 0, .int 0, .int 0, .int 0]))) : vm_Rp 0 0 32 [.ref 1] vh (fun q vh1 => q = some (.int 0) ∧ vh1 = vh) := by
  refine w_x e32_0 rfl ?_
  refine w_x e32_1 rfl ?_
  refine w_x e32_2 rfl ?_
  refine w_x e32_3 rfl ?_
  refine w_get e32_4 h1 rfl ?_
  refine w_ic1 e32_7 (by decide) ?_
  refine w_x e32_26 rfl ?_
  exact w_rz e32_27 rfl (by decide) ⟨rfl, rfl⟩
set_option maxRecDepth 100000 in
set_option maxHeartbeats 4000000 in
theorem m_X5_decompose {vh : vm_H} (h1 : vm_at vh 1 = some (.inr (5, [.ref 2, .ref 6, .ref 55, .int 0, .ref 56, .int 0, .ref 217, .ref 219, .ref 224, .ref 227, .ref 230, .ref 233, .ref 234, .ref 237, .int 0, .int 0, .int 0, .int 0]))) : vm_Rp 1 21 17 [.ref 1] vh (fun q vh1 => q = some (.int (-1)) ∧ vh1 = vh) := by
  refine w_x e17_0 rfl ?_
  refine w_cv (d1 := 0) (w1 := 0) e17_1 rfl h1 rfl (Nat.le_of_ble_eq_true rfl) (Nat.le_of_ble_eq_true rfl) (Nat.le_of_ble_eq_true rfl) (by decide) (by decide) (m_X5_hasSomethingToDecompose h1) (fun rv1 v1 q2 => ?_)
  obtain ⟨rfl, rfl⟩ := q2
  refine w_if0 e17_4 (by decide) ?_
  refine w_x e17_7 rfl ?_
  exact w_ri e17_8 rfl ⟨rfl, rfl⟩
set_option maxRecDepth 100000 in
set_option maxHeartbeats 4000000 in
theorem m_X5_prove {vh : vm_H} (h1 : vm_at vh 1 = some (.inr (5, [.ref 2, .ref 6, .ref 55, .int 0, .ref 56, .int 0, .ref 217, .ref 219, .ref 224, .ref 227, .ref 230, .ref 233, .ref 234, .ref 237, .int 0, .int 0, .int 0, .int 0]))) (a : Int32) : vm_Rp 1 21 18 [.ref 1, .int a] vh (fun q vh1 => q = some (.int (-1)) ∧ vh1 = vh) := by
  refine w_x e18_0 rfl ?_
  refine w_x e18_1 rfl ?_
  refine w_cv (d1 := 0) (w1 := 0) e18_2 rfl h1 rfl (Nat.le_of_ble_eq_true rfl) (Nat.le_of_ble_eq_true rfl) (Nat.le_of_ble_eq_true rfl) (by decide) (by decide) (m_X5_hasPolynomial h1 a) (fun rv1 v1 q2 => ?_)
  obtain ⟨rfl, rfl⟩ := q2
  refine w_if1 e18_5 (by decide) ?_
  refine w_x e18_18 rfl ?_
  exact w_ri e18_19 rfl ⟨rfl, rfl⟩
set_option maxRecDepth 100000 in
set_option maxHeartbeats 4000000 in
theorem m_X5_member {vh : vm_H} (h1 : vm_at vh 1 = some (.inr (5, [.ref 2, .ref 6, .ref 55, .int 0, .ref 56, .int 0, .ref 217, .ref 219, .ref 224, .ref 227, .ref 230, .ref 233, .ref 234, .ref 237, .int 0, .int 0, .int 0, .int 0]))) (h217 : vm_at vh 217 = some (.inr (4, [.ref 218, .int 0]))) (a : Int32) (b : Int32) : vm_Rp 1 21 19 [.ref 1, .int a, .int b] vh (fun q vh1 => q = some (.int (-1)) ∧ vh1 = vh) := by
  refine w_x e19_0 rfl ?_
  refine w_x e19_1 rfl ?_
  refine w_cv (d1 := 0) (w1 := 0) e19_2 rfl h1 rfl (Nat.le_of_ble_eq_true rfl) (Nat.le_of_ble_eq_true rfl) (Nat.le_of_ble_eq_true rfl) (by decide) (by decide) (m_X5_hasMember h1 h217 a) (fun rv1 v1 q2 => ?_)
  obtain ⟨rfl, rfl⟩ := q2
  refine w_if0 e19_5 (by decide) ?_
  refine w_x e19_8 rfl ?_
  exact w_ri e19_9 rfl ⟨rfl, rfl⟩
set_option maxRecDepth 100000 in
set_option maxHeartbeats 4000000 in
theorem m_X5_hypothesisCount {vh : vm_H} (h1 : vm_at vh 1 = some (.inr (5, [.ref 2, .ref 6, .ref 55, .int 0, .ref 56, .int 0, .ref 217, .ref 219, .ref 224, .ref 227, .ref 230, .ref 233, .ref 234, .ref 237, .int 0, .int 0, .int 0, .int 0]))) : vm_Rp 0 0 29 [.ref 1] vh (fun q vh1 => q = some (.int 0) ∧ vh1 = vh) := by
  refine w_x e29_0 rfl ?_
  refine w_x e29_1 rfl ?_
  refine w_x e29_2 rfl ?_
  refine w_x e29_3 rfl ?_
  refine w_x e29_4 rfl ?_
  refine w_x e29_5 rfl ?_
  refine w_get e29_6 h1 rfl ?_
  refine w_ic1 e29_9 (by decide) ?_
  refine w_x e29_30 rfl ?_
  exact w_ri e29_31 rfl ⟨rfl, rfl⟩
set_option maxRecDepth 100000 in
set_option maxHeartbeats 4000000 in
theorem m_X5_point {vh : vm_H} (h1 : vm_at vh 1 = some (.inr (5, [.ref 2, .ref 6, .ref 55, .int 0, .ref 56, .int 0, .ref 217, .ref 219, .ref 224, .ref 227, .ref 230, .ref 233, .ref 234, .ref 237, .int 0, .int 0, .int 0, .int 0]))) (h2 : vm_at vh 2 = some (.inr (0, [.int 0, .ref 3, .ref 4, .ref 5]))) (a : Int32) (b : Int64) : vm_Rp 1 21 23 [.ref 1, .int a, .long b] vh (fun q vh1 => q = some (.int 0) ∧ vh1 = vh) := by
  refine w_x e23_0 rfl ?_
  refine w_get e23_1 h1 rfl ?_
  refine w_x e23_4 rfl ?_
  refine w_cv (d1 := 0) (w1 := 0) e23_5 rfl h2 rfl (Nat.le_of_ble_eq_true rfl) (Nat.le_of_ble_eq_true rfl) (Nat.le_of_ble_eq_true rfl) (by decide) (by decide) (m_X0_has h2 a) (fun rv1 v1 q2 => ?_)
  obtain ⟨rfl, rfl⟩ := q2
  refine w_if0 e23_8 (by decide) ?_
  refine w_x e23_11 rfl ?_
  exact w_rz e23_12 rfl (by decide) ⟨rfl, rfl⟩
set_option maxRecDepth 100000 in
set_option maxHeartbeats 4000000 in
theorem m_X5_quotient {vh : vm_H} (h1 : vm_at vh 1 = some (.inr (5, [.ref 2, .ref 6, .ref 55, .int 0, .ref 56, .int 0, .ref 217, .ref 219, .ref 224, .ref 227, .ref 230, .ref 233, .ref 234, .ref 237, .int 0, .int 0, .int 0, .int 0]))) (h217 : vm_at vh 217 = some (.inr (4, [.ref 218, .int 0]))) (a : Int32) : vm_Rp 1 21 25 [.ref 1, .int a] vh (fun q vh1 => q = some (.long 0) ∧ vh1 = vh) := by
  refine w_x e25_0 rfl ?_
  refine w_x e25_1 rfl ?_
  refine w_cv (d1 := 0) (w1 := 0) e25_2 rfl h1 rfl (Nat.le_of_ble_eq_true rfl) (Nat.le_of_ble_eq_true rfl) (Nat.le_of_ble_eq_true rfl) (by decide) (by decide) (m_X5_hasMember h1 h217 a) (fun rv1 v1 q2 => ?_)
  obtain ⟨rfl, rfl⟩ := q2
  refine w_if0 e25_5 (by decide) ?_
  refine w_x e25_8 rfl ?_
  exact w_rl e25_9 rfl ⟨rfl, rfl⟩
set_option maxRecDepth 100000 in
set_option maxHeartbeats 4000000 in
theorem m_X5_find {vh : vm_H} (h1 : vm_at vh 1 = some (.inr (5, [.ref 2, .ref 6, .ref 55, .int 0, .ref 56, .int 0, .ref 217, .ref 219, .ref 224, .ref 227, .ref 230, .ref 233, .ref 234, .ref 237, .int 0, .int 0, .int 0, .int 0]))) (h217 : vm_at vh 217 = some (.inr (4, [.ref 218, .int 0]))) (a : Int32) (b : Int32) : vm_Rp 1 21 30 [.ref 1, .int a, .int b] vh (fun q vh1 => (q = some .null ∨ q = some (.ref 227) ∨ q = some (.ref 224)) ∧ vh1 = vh) := by
  refine w_x e30_0 rfl ?_
  rcases vm_tf (vm_cond .ne a 0) with c1 | c1
  · refine w_if1 e30_1 c1 ?_
    refine w_x e30_19 rfl ?_
    refine w_x e30_20 rfl ?_
    rcases vm_tf (vm_cond .ne a 1) with c2 | c2
    · refine w_ic1 e30_21 c2 ?_
      refine w_x e30_45 rfl ?_
      refine w_x e30_46 rfl ?_
      rcases vm_tf (vm_cond .ne a 2) with c3 | c3
      · refine w_ic1 e30_47 c3 ?_
        refine w_x e30_79 rfl ?_
        refine w_x e30_80 rfl ?_
        rcases vm_tf (vm_cond .ne a 3) with c4 | c4
        · refine w_ic1 e30_81 c4 ?_
          refine w_x e30_93 rfl ?_
          refine w_x e30_94 rfl ?_
          rcases vm_tf (vm_cond .ne a 4) with c5 | c5
          · refine w_ic1 e30_95 c5 ?_
            refine w_x e30_107 rfl ?_
            exact w_rn e30_108 rfl ⟨by simp, rfl⟩
          · refine w_ic0 e30_95 c5 ?_
            refine w_x e30_98 rfl ?_
            rcases vm_tf (vm_cond .ne b 0) with c6 | c6
            · refine w_if1 e30_99 c6 ?_
              refine w_x e30_107 rfl ?_
              exact w_rn e30_108 rfl ⟨by simp, rfl⟩
            · refine w_if0 e30_99 c6 ?_
              refine w_x e30_102 rfl ?_
              refine w_get e30_103 h1 rfl ?_
              exact w_ra e30_106 rfl ⟨by simp, rfl⟩
        · refine w_ic0 e30_81 c4 ?_
          refine w_x e30_84 rfl ?_
          rcases vm_tf (vm_cond .ne b 0) with c7 | c7
          · refine w_if1 e30_85 c7 ?_
            refine w_x e30_93 rfl ?_
            refine w_x e30_94 rfl ?_
            rcases vm_tf (vm_cond .ne a 4) with c8 | c8
            · refine w_ic1 e30_95 c8 ?_
              refine w_x e30_107 rfl ?_
              exact w_rn e30_108 rfl ⟨by simp, rfl⟩
            · refine w_ic0 e30_95 c8 ?_
              refine w_x e30_98 rfl ?_
              refine w_if1 e30_99 c7 ?_
              refine w_x e30_107 rfl ?_
              exact w_rn e30_108 rfl ⟨by simp, rfl⟩
          · refine w_if0 e30_85 c7 ?_
            refine w_x e30_88 rfl ?_
            refine w_get e30_89 h1 rfl ?_
            exact w_ra e30_92 rfl ⟨by simp, rfl⟩
      · refine w_ic0 e30_47 c3 ?_
        refine w_x e30_50 rfl ?_
        refine w_x e30_51 rfl ?_
        refine w_cv (d1 := 0) (w1 := 0) e30_52 rfl h1 rfl (Nat.le_of_ble_eq_true rfl) (Nat.le_of_ble_eq_true rfl) (Nat.le_of_ble_eq_true rfl) (by decide) (by decide) (m_X5_hasMember h1 h217 b) (fun rv9 v9 q10 => ?_)
        obtain ⟨rfl, rfl⟩ := q10
        refine w_if1 e30_55 (by decide) ?_
        refine w_x e30_79 rfl ?_
        refine w_x e30_80 rfl ?_
        rcases vm_tf (vm_cond .ne a 3) with c11 | c11
        · refine w_ic1 e30_81 c11 ?_
          refine w_x e30_93 rfl ?_
          refine w_x e30_94 rfl ?_
          rcases vm_tf (vm_cond .ne a 4) with c12 | c12
          · refine w_ic1 e30_95 c12 ?_
            refine w_x e30_107 rfl ?_
            exact w_rn e30_108 rfl ⟨by simp, rfl⟩
          · refine w_ic0 e30_95 c12 ?_
            refine w_x e30_98 rfl ?_
            rcases vm_tf (vm_cond .ne b 0) with c13 | c13
            · refine w_if1 e30_99 c13 ?_
              refine w_x e30_107 rfl ?_
              exact w_rn e30_108 rfl ⟨by simp, rfl⟩
            · refine w_if0 e30_99 c13 ?_
              refine w_x e30_102 rfl ?_
              refine w_get e30_103 h1 rfl ?_
              exact w_ra e30_106 rfl ⟨by simp, rfl⟩
        · refine w_ic0 e30_81 c11 ?_
          refine w_x e30_84 rfl ?_
          rcases vm_tf (vm_cond .ne b 0) with c14 | c14
          · refine w_if1 e30_85 c14 ?_
            refine w_x e30_93 rfl ?_
            refine w_x e30_94 rfl ?_
            rcases vm_tf (vm_cond .ne a 4) with c15 | c15
            · refine w_ic1 e30_95 c15 ?_
              refine w_x e30_107 rfl ?_
              exact w_rn e30_108 rfl ⟨by simp, rfl⟩
            · refine w_ic0 e30_95 c15 ?_
              refine w_x e30_98 rfl ?_
              refine w_if1 e30_99 c14 ?_
              refine w_x e30_107 rfl ?_
              exact w_rn e30_108 rfl ⟨by simp, rfl⟩
          · refine w_if0 e30_85 c14 ?_
            refine w_x e30_88 rfl ?_
            refine w_get e30_89 h1 rfl ?_
            exact w_ra e30_92 rfl ⟨by simp, rfl⟩
    · refine w_ic0 e30_21 c2 ?_
      refine w_x e30_24 rfl ?_
      refine w_x e30_25 rfl ?_
      refine w_cv (d1 := 0) (w1 := 0) e30_26 rfl h1 rfl (Nat.le_of_ble_eq_true rfl) (Nat.le_of_ble_eq_true rfl) (Nat.le_of_ble_eq_true rfl) (by decide) (by decide) (m_X5_hasMember h1 h217 b) (fun rv16 v16 q17 => ?_)
      obtain ⟨rfl, rfl⟩ := q17
      refine w_if1 e30_29 (by decide) ?_
      refine w_x e30_45 rfl ?_
      refine w_x e30_46 rfl ?_
      rcases vm_tf (vm_cond .ne a 2) with c18 | c18
      · refine w_ic1 e30_47 c18 ?_
        refine w_x e30_79 rfl ?_
        refine w_x e30_80 rfl ?_
        rcases vm_tf (vm_cond .ne a 3) with c19 | c19
        · refine w_ic1 e30_81 c19 ?_
          refine w_x e30_93 rfl ?_
          refine w_x e30_94 rfl ?_
          rcases vm_tf (vm_cond .ne a 4) with c20 | c20
          · refine w_ic1 e30_95 c20 ?_
            refine w_x e30_107 rfl ?_
            exact w_rn e30_108 rfl ⟨by simp, rfl⟩
          · refine w_ic0 e30_95 c20 ?_
            refine w_x e30_98 rfl ?_
            rcases vm_tf (vm_cond .ne b 0) with c21 | c21
            · refine w_if1 e30_99 c21 ?_
              refine w_x e30_107 rfl ?_
              exact w_rn e30_108 rfl ⟨by simp, rfl⟩
            · refine w_if0 e30_99 c21 ?_
              refine w_x e30_102 rfl ?_
              refine w_get e30_103 h1 rfl ?_
              exact w_ra e30_106 rfl ⟨by simp, rfl⟩
        · refine w_ic0 e30_81 c19 ?_
          refine w_x e30_84 rfl ?_
          rcases vm_tf (vm_cond .ne b 0) with c22 | c22
          · refine w_if1 e30_85 c22 ?_
            refine w_x e30_93 rfl ?_
            refine w_x e30_94 rfl ?_
            rcases vm_tf (vm_cond .ne a 4) with c23 | c23
            · refine w_ic1 e30_95 c23 ?_
              refine w_x e30_107 rfl ?_
              exact w_rn e30_108 rfl ⟨by simp, rfl⟩
            · refine w_ic0 e30_95 c23 ?_
              refine w_x e30_98 rfl ?_
              refine w_if1 e30_99 c22 ?_
              refine w_x e30_107 rfl ?_
              exact w_rn e30_108 rfl ⟨by simp, rfl⟩
          · refine w_if0 e30_85 c22 ?_
            refine w_x e30_88 rfl ?_
            refine w_get e30_89 h1 rfl ?_
            exact w_ra e30_92 rfl ⟨by simp, rfl⟩
      · refine w_ic0 e30_47 c18 ?_
        refine w_x e30_50 rfl ?_
        refine w_x e30_51 rfl ?_
        refine w_cv (d1 := 0) (w1 := 0) e30_52 rfl h1 rfl (Nat.le_of_ble_eq_true rfl) (Nat.le_of_ble_eq_true rfl) (Nat.le_of_ble_eq_true rfl) (by decide) (by decide) (m_X5_hasMember h1 h217 b) (fun rv24 v24 q25 => ?_)
        obtain ⟨rfl, rfl⟩ := q25
        refine w_if1 e30_55 (by decide) ?_
        refine w_x e30_79 rfl ?_
        refine w_x e30_80 rfl ?_
        rcases vm_tf (vm_cond .ne a 3) with c26 | c26
        · refine w_ic1 e30_81 c26 ?_
          refine w_x e30_93 rfl ?_
          refine w_x e30_94 rfl ?_
          rcases vm_tf (vm_cond .ne a 4) with c27 | c27
          · refine w_ic1 e30_95 c27 ?_
            refine w_x e30_107 rfl ?_
            exact w_rn e30_108 rfl ⟨by simp, rfl⟩
          · refine w_ic0 e30_95 c27 ?_
            refine w_x e30_98 rfl ?_
            rcases vm_tf (vm_cond .ne b 0) with c28 | c28
            · refine w_if1 e30_99 c28 ?_
              refine w_x e30_107 rfl ?_
              exact w_rn e30_108 rfl ⟨by simp, rfl⟩
            · refine w_if0 e30_99 c28 ?_
              refine w_x e30_102 rfl ?_
              refine w_get e30_103 h1 rfl ?_
              exact w_ra e30_106 rfl ⟨by simp, rfl⟩
        · refine w_ic0 e30_81 c26 ?_
          refine w_x e30_84 rfl ?_
          rcases vm_tf (vm_cond .ne b 0) with c29 | c29
          · refine w_if1 e30_85 c29 ?_
            refine w_x e30_93 rfl ?_
            refine w_x e30_94 rfl ?_
            rcases vm_tf (vm_cond .ne a 4) with c30 | c30
            · refine w_ic1 e30_95 c30 ?_
              refine w_x e30_107 rfl ?_
              exact w_rn e30_108 rfl ⟨by simp, rfl⟩
            · refine w_ic0 e30_95 c30 ?_
              refine w_x e30_98 rfl ?_
              refine w_if1 e30_99 c29 ?_
              refine w_x e30_107 rfl ?_
              exact w_rn e30_108 rfl ⟨by simp, rfl⟩
          · refine w_if0 e30_85 c29 ?_
            refine w_x e30_88 rfl ?_
            refine w_get e30_89 h1 rfl ?_
            exact w_ra e30_92 rfl ⟨by simp, rfl⟩
  · refine w_if0 e30_1 c1 ?_
    refine w_x e30_4 rfl ?_
    refine w_x e30_5 rfl ?_
    refine w_cv (d1 := 0) (w1 := 0) e30_6 rfl h1 rfl (Nat.le_of_ble_eq_true rfl) (Nat.le_of_ble_eq_true rfl) (Nat.le_of_ble_eq_true rfl) (by decide) (by decide) (m_X5_hasPolynomial h1 b) (fun rv31 v31 q32 => ?_)
    obtain ⟨rfl, rfl⟩ := q32
    refine w_if1 e30_9 (by decide) ?_
    refine w_x e30_19 rfl ?_
    refine w_x e30_20 rfl ?_
    rcases vm_tf (vm_cond .ne a 1) with c33 | c33
    · refine w_ic1 e30_21 c33 ?_
      refine w_x e30_45 rfl ?_
      refine w_x e30_46 rfl ?_
      rcases vm_tf (vm_cond .ne a 2) with c34 | c34
      · refine w_ic1 e30_47 c34 ?_
        refine w_x e30_79 rfl ?_
        refine w_x e30_80 rfl ?_
        rcases vm_tf (vm_cond .ne a 3) with c35 | c35
        · refine w_ic1 e30_81 c35 ?_
          refine w_x e30_93 rfl ?_
          refine w_x e30_94 rfl ?_
          rcases vm_tf (vm_cond .ne a 4) with c36 | c36
          · refine w_ic1 e30_95 c36 ?_
            refine w_x e30_107 rfl ?_
            exact w_rn e30_108 rfl ⟨by simp, rfl⟩
          · refine w_ic0 e30_95 c36 ?_
            refine w_x e30_98 rfl ?_
            rcases vm_tf (vm_cond .ne b 0) with c37 | c37
            · refine w_if1 e30_99 c37 ?_
              refine w_x e30_107 rfl ?_
              exact w_rn e30_108 rfl ⟨by simp, rfl⟩
            · refine w_if0 e30_99 c37 ?_
              refine w_x e30_102 rfl ?_
              refine w_get e30_103 h1 rfl ?_
              exact w_ra e30_106 rfl ⟨by simp, rfl⟩
        · refine w_ic0 e30_81 c35 ?_
          refine w_x e30_84 rfl ?_
          rcases vm_tf (vm_cond .ne b 0) with c38 | c38
          · refine w_if1 e30_85 c38 ?_
            refine w_x e30_93 rfl ?_
            refine w_x e30_94 rfl ?_
            rcases vm_tf (vm_cond .ne a 4) with c39 | c39
            · refine w_ic1 e30_95 c39 ?_
              refine w_x e30_107 rfl ?_
              exact w_rn e30_108 rfl ⟨by simp, rfl⟩
            · refine w_ic0 e30_95 c39 ?_
              refine w_x e30_98 rfl ?_
              refine w_if1 e30_99 c38 ?_
              refine w_x e30_107 rfl ?_
              exact w_rn e30_108 rfl ⟨by simp, rfl⟩
          · refine w_if0 e30_85 c38 ?_
            refine w_x e30_88 rfl ?_
            refine w_get e30_89 h1 rfl ?_
            exact w_ra e30_92 rfl ⟨by simp, rfl⟩
      · refine w_ic0 e30_47 c34 ?_
        refine w_x e30_50 rfl ?_
        refine w_x e30_51 rfl ?_
        refine w_cv (d1 := 0) (w1 := 0) e30_52 rfl h1 rfl (Nat.le_of_ble_eq_true rfl) (Nat.le_of_ble_eq_true rfl) (Nat.le_of_ble_eq_true rfl) (by decide) (by decide) (m_X5_hasMember h1 h217 b) (fun rv40 v40 q41 => ?_)
        obtain ⟨rfl, rfl⟩ := q41
        refine w_if1 e30_55 (by decide) ?_
        refine w_x e30_79 rfl ?_
        refine w_x e30_80 rfl ?_
        rcases vm_tf (vm_cond .ne a 3) with c42 | c42
        · refine w_ic1 e30_81 c42 ?_
          refine w_x e30_93 rfl ?_
          refine w_x e30_94 rfl ?_
          rcases vm_tf (vm_cond .ne a 4) with c43 | c43
          · refine w_ic1 e30_95 c43 ?_
            refine w_x e30_107 rfl ?_
            exact w_rn e30_108 rfl ⟨by simp, rfl⟩
          · refine w_ic0 e30_95 c43 ?_
            refine w_x e30_98 rfl ?_
            rcases vm_tf (vm_cond .ne b 0) with c44 | c44
            · refine w_if1 e30_99 c44 ?_
              refine w_x e30_107 rfl ?_
              exact w_rn e30_108 rfl ⟨by simp, rfl⟩
            · refine w_if0 e30_99 c44 ?_
              refine w_x e30_102 rfl ?_
              refine w_get e30_103 h1 rfl ?_
              exact w_ra e30_106 rfl ⟨by simp, rfl⟩
        · refine w_ic0 e30_81 c42 ?_
          refine w_x e30_84 rfl ?_
          rcases vm_tf (vm_cond .ne b 0) with c45 | c45
          · refine w_if1 e30_85 c45 ?_
            refine w_x e30_93 rfl ?_
            refine w_x e30_94 rfl ?_
            rcases vm_tf (vm_cond .ne a 4) with c46 | c46
            · refine w_ic1 e30_95 c46 ?_
              refine w_x e30_107 rfl ?_
              exact w_rn e30_108 rfl ⟨by simp, rfl⟩
            · refine w_ic0 e30_95 c46 ?_
              refine w_x e30_98 rfl ?_
              refine w_if1 e30_99 c45 ?_
              refine w_x e30_107 rfl ?_
              exact w_rn e30_108 rfl ⟨by simp, rfl⟩
          · refine w_if0 e30_85 c45 ?_
            refine w_x e30_88 rfl ?_
            refine w_get e30_89 h1 rfl ?_
            exact w_ra e30_92 rfl ⟨by simp, rfl⟩
    · refine w_ic0 e30_21 c33 ?_
      refine w_x e30_24 rfl ?_
      refine w_x e30_25 rfl ?_
      refine w_cv (d1 := 0) (w1 := 0) e30_26 rfl h1 rfl (Nat.le_of_ble_eq_true rfl) (Nat.le_of_ble_eq_true rfl) (Nat.le_of_ble_eq_true rfl) (by decide) (by decide) (m_X5_hasMember h1 h217 b) (fun rv47 v47 q48 => ?_)
      obtain ⟨rfl, rfl⟩ := q48
      refine w_if1 e30_29 (by decide) ?_
      refine w_x e30_45 rfl ?_
      refine w_x e30_46 rfl ?_
      rcases vm_tf (vm_cond .ne a 2) with c49 | c49
      · refine w_ic1 e30_47 c49 ?_
        refine w_x e30_79 rfl ?_
        refine w_x e30_80 rfl ?_
        rcases vm_tf (vm_cond .ne a 3) with c50 | c50
        · refine w_ic1 e30_81 c50 ?_
          refine w_x e30_93 rfl ?_
          refine w_x e30_94 rfl ?_
          rcases vm_tf (vm_cond .ne a 4) with c51 | c51
          · refine w_ic1 e30_95 c51 ?_
            refine w_x e30_107 rfl ?_
            exact w_rn e30_108 rfl ⟨by simp, rfl⟩
          · refine w_ic0 e30_95 c51 ?_
            refine w_x e30_98 rfl ?_
            rcases vm_tf (vm_cond .ne b 0) with c52 | c52
            · refine w_if1 e30_99 c52 ?_
              refine w_x e30_107 rfl ?_
              exact w_rn e30_108 rfl ⟨by simp, rfl⟩
            · refine w_if0 e30_99 c52 ?_
              refine w_x e30_102 rfl ?_
              refine w_get e30_103 h1 rfl ?_
              exact w_ra e30_106 rfl ⟨by simp, rfl⟩
        · refine w_ic0 e30_81 c50 ?_
          refine w_x e30_84 rfl ?_
          rcases vm_tf (vm_cond .ne b 0) with c53 | c53
          · refine w_if1 e30_85 c53 ?_
            refine w_x e30_93 rfl ?_
            refine w_x e30_94 rfl ?_
            rcases vm_tf (vm_cond .ne a 4) with c54 | c54
            · refine w_ic1 e30_95 c54 ?_
              refine w_x e30_107 rfl ?_
              exact w_rn e30_108 rfl ⟨by simp, rfl⟩
            · refine w_ic0 e30_95 c54 ?_
              refine w_x e30_98 rfl ?_
              refine w_if1 e30_99 c53 ?_
              refine w_x e30_107 rfl ?_
              exact w_rn e30_108 rfl ⟨by simp, rfl⟩
          · refine w_if0 e30_85 c53 ?_
            refine w_x e30_88 rfl ?_
            refine w_get e30_89 h1 rfl ?_
            exact w_ra e30_92 rfl ⟨by simp, rfl⟩
      · refine w_ic0 e30_47 c49 ?_
        refine w_x e30_50 rfl ?_
        refine w_x e30_51 rfl ?_
        refine w_cv (d1 := 0) (w1 := 0) e30_52 rfl h1 rfl (Nat.le_of_ble_eq_true rfl) (Nat.le_of_ble_eq_true rfl) (Nat.le_of_ble_eq_true rfl) (by decide) (by decide) (m_X5_hasMember h1 h217 b) (fun rv55 v55 q56 => ?_)
        obtain ⟨rfl, rfl⟩ := q56
        refine w_if1 e30_55 (by decide) ?_
        refine w_x e30_79 rfl ?_
        refine w_x e30_80 rfl ?_
        rcases vm_tf (vm_cond .ne a 3) with c57 | c57
        · refine w_ic1 e30_81 c57 ?_
          refine w_x e30_93 rfl ?_
          refine w_x e30_94 rfl ?_
          rcases vm_tf (vm_cond .ne a 4) with c58 | c58
          · refine w_ic1 e30_95 c58 ?_
            refine w_x e30_107 rfl ?_
            exact w_rn e30_108 rfl ⟨by simp, rfl⟩
          · refine w_ic0 e30_95 c58 ?_
            refine w_x e30_98 rfl ?_
            rcases vm_tf (vm_cond .ne b 0) with c59 | c59
            · refine w_if1 e30_99 c59 ?_
              refine w_x e30_107 rfl ?_
              exact w_rn e30_108 rfl ⟨by simp, rfl⟩
            · refine w_if0 e30_99 c59 ?_
              refine w_x e30_102 rfl ?_
              refine w_get e30_103 h1 rfl ?_
              exact w_ra e30_106 rfl ⟨by simp, rfl⟩
        · refine w_ic0 e30_81 c57 ?_
          refine w_x e30_84 rfl ?_
          rcases vm_tf (vm_cond .ne b 0) with c60 | c60
          · refine w_if1 e30_85 c60 ?_
            refine w_x e30_93 rfl ?_
            refine w_x e30_94 rfl ?_
            rcases vm_tf (vm_cond .ne a 4) with c61 | c61
            · refine w_ic1 e30_95 c61 ?_
              refine w_x e30_107 rfl ?_
              exact w_rn e30_108 rfl ⟨by simp, rfl⟩
            · refine w_ic0 e30_95 c61 ?_
              refine w_x e30_98 rfl ?_
              refine w_if1 e30_99 c60 ?_
              refine w_x e30_107 rfl ?_
              exact w_rn e30_108 rfl ⟨by simp, rfl⟩
          · refine w_if0 e30_85 c60 ?_
            refine w_x e30_88 rfl ?_
            refine w_get e30_89 h1 rfl ?_
            exact w_ra e30_92 rfl ⟨by simp, rfl⟩
set_option maxRecDepth 100000 in
set_option maxHeartbeats 4000000 in
theorem m_hasTerm227 {vh : vm_H} (h227 : vm_at vh 227 = some (.inr (1, [.ref 228, .ref 229, .int 0]))) (a : Int32) : vm_Rp 0 0 7 [.ref 227, .int a] vh (fun q vh1 => q = some (.int 0) ∧ vh1 = vh) := by
  refine w_x e7_0 rfl ?_
  rcases vm_tf (vm_cond .lt a 0) with c1 | c1
  · refine w_if1 e7_1 c1 ?_
    refine w_x e7_16 rfl ?_
    exact w_rz e7_17 rfl (by decide) ⟨rfl, rfl⟩
  · refine w_if0 e7_1 c1 ?_
    refine w_x e7_4 rfl ?_
    refine w_x e7_5 rfl ?_
    refine w_get e7_6 h227 rfl ?_
    refine w_ic1 e7_9 (vm_neg0 c1) ?_
    refine w_x e7_16 rfl ?_
    exact w_rz e7_17 rfl (by decide) ⟨rfl, rfl⟩
set_option maxRecDepth 100000 in
set_option maxHeartbeats 4000000 in
theorem m_hasTerm224 {vh : vm_H} (h224 : vm_at vh 224 = some (.inr (1, [.ref 225, .ref 226, .int 0]))) (a : Int32) : vm_Rp 0 0 7 [.ref 224, .int a] vh (fun q vh1 => q = some (.int 0) ∧ vh1 = vh) := by
  refine w_x e7_0 rfl ?_
  rcases vm_tf (vm_cond .lt a 0) with c1 | c1
  · refine w_if1 e7_1 c1 ?_
    refine w_x e7_16 rfl ?_
    exact w_rz e7_17 rfl (by decide) ⟨rfl, rfl⟩
  · refine w_if0 e7_1 c1 ?_
    refine w_x e7_4 rfl ?_
    refine w_x e7_5 rfl ?_
    refine w_get e7_6 h224 rfl ?_
    refine w_ic1 e7_9 (vm_neg0 c1) ?_
    refine w_x e7_16 rfl ?_
    exact w_rz e7_17 rfl (by decide) ⟨rfl, rfl⟩
set_option maxRecDepth 100000 in
set_option maxHeartbeats 4000000 in
theorem m_valueOf227 {vh : vm_H} (h2 : vm_at vh 2 = some (.inr (0, [.int 0, .ref 3, .ref 4, .ref 5]))) (h227 : vm_at vh 227 = some (.inr (1, [.ref 228, .ref 229, .int 0]))) : vm_Rp 0 0 4 [.ref 2, .ref 227] vh (fun q vh1 => q = some (.long 0) ∧ vh1 = vh) := by
  refine w_x e4_0 rfl ?_
  refine w_x e4_1 rfl ?_
  refine w_x e4_2 rfl ?_
  refine w_x e4_3 rfl ?_
  refine w_x e4_5 rfl ?_
  refine w_x e4_7 rfl ?_
  refine w_get e4_8 h227 rfl ?_
  refine w_ic1 e4_11 (by decide) ?_
  refine w_x e4_42 rfl ?_
  exact w_rl e4_43 rfl ⟨rfl, rfl⟩
set_option maxRecDepth 100000 in
set_option maxHeartbeats 4000000 in
theorem m_valueOf224 {vh : vm_H} (h2 : vm_at vh 2 = some (.inr (0, [.int 0, .ref 3, .ref 4, .ref 5]))) (h224 : vm_at vh 224 = some (.inr (1, [.ref 225, .ref 226, .int 0]))) : vm_Rp 0 0 4 [.ref 2, .ref 224] vh (fun q vh1 => q = some (.long 0) ∧ vh1 = vh) := by
  refine w_x e4_0 rfl ?_
  refine w_x e4_1 rfl ?_
  refine w_x e4_2 rfl ?_
  refine w_x e4_3 rfl ?_
  refine w_x e4_5 rfl ?_
  refine w_x e4_7 rfl ?_
  refine w_get e4_8 h224 rfl ?_
  refine w_ic1 e4_11 (by decide) ?_
  refine w_x e4_42 rfl ?_
  exact w_rl e4_43 rfl ⟨rfl, rfl⟩
set_option maxRecDepth 100000 in
set_option maxHeartbeats 4000000 in
theorem m_X5_coefficient {vh : vm_H} (h1 : vm_at vh 1 = some (.inr (5, [.ref 2, .ref 6, .ref 55, .int 0, .ref 56, .int 0, .ref 217, .ref 219, .ref 224, .ref 227, .ref 230, .ref 233, .ref 234, .ref 237, .int 0, .int 0, .int 0, .int 0]))) (h217 : vm_at vh 217 = some (.inr (4, [.ref 218, .int 0]))) (h224 : vm_at vh 224 = some (.inr (1, [.ref 225, .ref 226, .int 0]))) (h227 : vm_at vh 227 = some (.inr (1, [.ref 228, .ref 229, .int 0]))) (a : Int32) (b : Int32) (c : Int32) : vm_Rp 2 43 21 [.ref 1, .int a, .int b, .int c] vh (fun q vh1 => q = some (.long 0) ∧ vh1 = vh) := by
  refine w_x e21_0 rfl ?_
  refine w_x e21_1 rfl ?_
  refine w_x e21_2 rfl ?_
  refine w_cv (d1 := 1) (w1 := 21) e21_3 rfl h1 rfl (Nat.le_of_ble_eq_true rfl) (Nat.le_of_ble_eq_true rfl) (Nat.le_of_ble_eq_true rfl) (by decide) (by decide) (m_X5_find h1 h217 a b) (fun rv1 v1 q2 => ?_)
  obtain ⟨q2, rfl⟩ := q2
  rcases q2 with rfl | rfl | rfl
  ·
    refine w_x e21_6 rfl ?_
    refine w_x e21_8 rfl ?_
    refine w_x e21_10 rfl ?_
    refine w_x e21_22 rfl ?_
    exact w_rl e21_23 rfl ⟨rfl, rfl⟩
  ·
    refine w_x e21_6 rfl ?_
    refine w_x e21_8 rfl ?_
    refine w_x e21_10 rfl ?_
    refine w_x e21_13 rfl ?_
    refine w_x e21_15 rfl ?_
    refine w_cv (d1 := 0) (w1 := 0) e21_16 rfl h227 rfl (Nat.le_of_ble_eq_true rfl) (Nat.le_of_ble_eq_true rfl) (Nat.le_of_ble_eq_true rfl) (by decide) (by decide) (m_hasTerm227 h227 c) (fun rv3 v3 q4 => ?_)
    obtain ⟨rfl, rfl⟩ := q4
    refine w_if0 e21_19 (by decide) ?_
    refine w_x e21_22 rfl ?_
    exact w_rl e21_23 rfl ⟨rfl, rfl⟩
  ·
    refine w_x e21_6 rfl ?_
    refine w_x e21_8 rfl ?_
    refine w_x e21_10 rfl ?_
    refine w_x e21_13 rfl ?_
    refine w_x e21_15 rfl ?_
    refine w_cv (d1 := 0) (w1 := 0) e21_16 rfl h224 rfl (Nat.le_of_ble_eq_true rfl) (Nat.le_of_ble_eq_true rfl) (Nat.le_of_ble_eq_true rfl) (by decide) (by decide) (m_hasTerm224 h224 c) (fun rv5 v5 q6 => ?_)
    obtain ⟨rfl, rfl⟩ := q6
    refine w_if0 e21_19 (by decide) ?_
    refine w_x e21_22 rfl ?_
    exact w_rl e21_23 rfl ⟨rfl, rfl⟩
set_option maxRecDepth 100000 in
set_option maxHeartbeats 4000000 in
theorem m_X5_powers {vh : vm_H} (h1 : vm_at vh 1 = some (.inr (5, [.ref 2, .ref 6, .ref 55, .int 0, .ref 56, .int 0, .ref 217, .ref 219, .ref 224, .ref 227, .ref 230, .ref 233, .ref 234, .ref 237, .int 0, .int 0, .int 0, .int 0]))) (h217 : vm_at vh 217 = some (.inr (4, [.ref 218, .int 0]))) (h224 : vm_at vh 224 = some (.inr (1, [.ref 225, .ref 226, .int 0]))) (h227 : vm_at vh 227 = some (.inr (1, [.ref 228, .ref 229, .int 0]))) (a : Int32) (b : Int32) (c : Int32) : vm_Rp 2 43 22 [.ref 1, .int a, .int b, .int c] vh (fun q vh1 => q = some (.int (-1)) ∧ vh1 = vh) := by
  refine w_x e22_0 rfl ?_
  refine w_x e22_1 rfl ?_
  refine w_x e22_2 rfl ?_
  refine w_cv (d1 := 1) (w1 := 21) e22_3 rfl h1 rfl (Nat.le_of_ble_eq_true rfl) (Nat.le_of_ble_eq_true rfl) (Nat.le_of_ble_eq_true rfl) (by decide) (by decide) (m_X5_find h1 h217 a b) (fun rv1 v1 q2 => ?_)
  obtain ⟨q2, rfl⟩ := q2
  rcases q2 with rfl | rfl | rfl
  ·
    refine w_x e22_6 rfl ?_
    refine w_x e22_8 rfl ?_
    refine w_x e22_10 rfl ?_
    refine w_x e22_22 rfl ?_
    exact w_ri e22_23 rfl ⟨rfl, rfl⟩
  ·
    refine w_x e22_6 rfl ?_
    refine w_x e22_8 rfl ?_
    refine w_x e22_10 rfl ?_
    refine w_x e22_13 rfl ?_
    refine w_x e22_15 rfl ?_
    refine w_cv (d1 := 0) (w1 := 0) e22_16 rfl h227 rfl (Nat.le_of_ble_eq_true rfl) (Nat.le_of_ble_eq_true rfl) (Nat.le_of_ble_eq_true rfl) (by decide) (by decide) (m_hasTerm227 h227 c) (fun rv3 v3 q4 => ?_)
    obtain ⟨rfl, rfl⟩ := q4
    refine w_if0 e22_19 (by decide) ?_
    refine w_x e22_22 rfl ?_
    exact w_ri e22_23 rfl ⟨rfl, rfl⟩
  ·
    refine w_x e22_6 rfl ?_
    refine w_x e22_8 rfl ?_
    refine w_x e22_10 rfl ?_
    refine w_x e22_13 rfl ?_
    refine w_x e22_15 rfl ?_
    refine w_cv (d1 := 0) (w1 := 0) e22_16 rfl h224 rfl (Nat.le_of_ble_eq_true rfl) (Nat.le_of_ble_eq_true rfl) (Nat.le_of_ble_eq_true rfl) (by decide) (by decide) (m_hasTerm224 h224 c) (fun rv5 v5 q6 => ?_)
    obtain ⟨rfl, rfl⟩ := q6
    refine w_if0 e22_19 (by decide) ?_
    refine w_x e22_22 rfl ?_
    exact w_ri e22_23 rfl ⟨rfl, rfl⟩
set_option maxRecDepth 100000 in
set_option maxHeartbeats 4000000 in
theorem m_X5_value {vh : vm_H} (h1 : vm_at vh 1 = some (.inr (5, [.ref 2, .ref 6, .ref 55, .int 0, .ref 56, .int 0, .ref 217, .ref 219, .ref 224, .ref 227, .ref 230, .ref 233, .ref 234, .ref 237, .int 0, .int 0, .int 0, .int 0]))) (h2 : vm_at vh 2 = some (.inr (0, [.int 0, .ref 3, .ref 4, .ref 5]))) (h217 : vm_at vh 217 = some (.inr (4, [.ref 218, .int 0]))) (h224 : vm_at vh 224 = some (.inr (1, [.ref 225, .ref 226, .int 0]))) (h227 : vm_at vh 227 = some (.inr (1, [.ref 228, .ref 229, .int 0]))) (a : Int32) (b : Int32) : vm_Rp 2 43 24 [.ref 1, .int a, .int b] vh (fun q vh1 => q = some (.long 0) ∧ vh1 = vh) := by
  refine w_x e24_0 rfl ?_
  refine w_x e24_1 rfl ?_
  refine w_x e24_2 rfl ?_
  refine w_cv (d1 := 1) (w1 := 21) e24_3 rfl h1 rfl (Nat.le_of_ble_eq_true rfl) (Nat.le_of_ble_eq_true rfl) (Nat.le_of_ble_eq_true rfl) (by decide) (by decide) (m_X5_find h1 h217 a b) (fun rv1 v1 q2 => ?_)
  obtain ⟨q2, rfl⟩ := q2
  rcases q2 with rfl | rfl | rfl
  ·
    refine w_x e24_6 rfl ?_
    refine w_x e24_7 rfl ?_
    refine w_x e24_8 rfl ?_
    refine w_x e24_11 rfl ?_
    refine w_x e24_12 rfl ?_
    exact w_rl e24_23 rfl ⟨rfl, rfl⟩
  ·
    refine w_x e24_6 rfl ?_
    refine w_x e24_7 rfl ?_
    refine w_x e24_8 rfl ?_
    refine w_x e24_15 rfl ?_
    refine w_get e24_16 h1 rfl ?_
    refine w_x e24_19 rfl ?_
    refine w_cv (d1 := 0) (w1 := 0) e24_20 rfl h2 rfl (Nat.le_of_ble_eq_true rfl) (Nat.le_of_ble_eq_true rfl) (Nat.le_of_ble_eq_true rfl) (by decide) (by decide) (m_valueOf227 h2 h227) (fun rv3 v3 q4 => ?_)
    obtain ⟨rfl, rfl⟩ := q4
    exact w_rl e24_23 rfl ⟨rfl, rfl⟩
  ·
    refine w_x e24_6 rfl ?_
    refine w_x e24_7 rfl ?_
    refine w_x e24_8 rfl ?_
    refine w_x e24_15 rfl ?_
    refine w_get e24_16 h1 rfl ?_
    refine w_x e24_19 rfl ?_
    refine w_cv (d1 := 0) (w1 := 0) e24_20 rfl h2 rfl (Nat.le_of_ble_eq_true rfl) (Nat.le_of_ble_eq_true rfl) (Nat.le_of_ble_eq_true rfl) (by decide) (by decide) (m_valueOf224 h2 h224) (fun rv5 v5 q6 => ?_)
    obtain ⟨rfl, rfl⟩ := q6
    exact w_rl e24_23 rfl ⟨rfl, rfl⟩
set_option maxRecDepth 100000 in
set_option maxHeartbeats 4000000 in
theorem m_X6_noPoly {vh : vm_H} (h238 : vm_at vh 238 = some (.inr (6, [.int 0, .int 0, .ref 239, .ref 240, .int 0, .ref 241, .ref 242, .ref 243, .ref 244, .ref 245, .int 0, .int 0, .int 0, .int 0, .int 0, .int 0, .int 0, .int 0, .int 0, .int 0, .ref 246, .ref 247, .ref 248, .ref 249, .ref 250, .int 0, .ref 251, .int 0, .int 0, .ref 252, .ref 253, .ref 254, .ref 255, .ref 256, .ref 257, .ref 258, .ref 259, .ref 260, .int 0, .ref 261, .int 0, .int 0, .int 0, .ref 262]))) (a : Int32) : vm_Rp 0 0 37 [.ref 238, .int a] vh (fun q vh1 => q = some (.int 1) ∧ vh1 = vh) := by
  refine w_x e37_0 rfl ?_
  rcases vm_tf (vm_cond .lt a 0) with c1 | c1
  · refine w_if1 e37_1 c1 ?_
    refine w_x e37_12 rfl ?_
    refine w_x e37_13 rfl ?_
    exact w_rz e37_17 rfl (by decide) ⟨rfl, rfl⟩
  · refine w_if0 e37_1 c1 ?_
    refine w_x e37_4 rfl ?_
    refine w_x e37_5 rfl ?_
    refine w_get e37_6 h238 rfl ?_
    refine w_ic0 e37_9 c1 ?_
    refine w_x e37_12 rfl ?_
    refine w_x e37_13 rfl ?_
    exact w_rz e37_17 rfl (by decide) ⟨rfl, rfl⟩
