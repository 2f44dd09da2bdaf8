set_option maxRecDepth 100000 in
set_option maxHeartbeats 4000000 in
theorem c101 {sc : Nat → Int} {ai : Nat → Nat → Int} {al : Nat → Nat → Int64} {az : Nat → Nat → Int32} {v0 vh : vm_H} (hM : tm sc ai al az v0 vh) (hK : tmok ai) : vm_Rp 0 0 101 [.ref 238] vh (fun r v1 => (tm (fgS sc) ai al az v0 v1) ∧ r = none) := by
  refine w_in (m := 0) ?_
  show vm_Wp _ _ _ 0 [some (.ref 238)] [] _ _
  refine w_ldA e101_0 (fun _ => rfl) rfl ?_
  refine w_kI e101_1 ?_
  have e1 := tm_o hM
  refine w_put e101_2 e1 (Nat.le_of_ble_eq_true rfl) (vz_okz (by omega)) (fun v4 b2 h3 => ?_)
  obtain ⟨sc5, hd7, hM6⟩ : ∃ z, z = u1 sc 10 (0) ∧ tm z ai al az v0 v4 := ⟨_, rfl, tm_ps 10 hM (by omega) b2 h3⟩
  refine w_ldA e101_5 (fun _ => rfl) rfl ?_
  refine w_kI e101_6 ?_
  have e8 := tm_o hM6
  refine w_put e101_7 e8 (Nat.le_of_ble_eq_true rfl) rfl (fun v11 b9 h10 => ?_)
  obtain ⟨sc12, hd14, hM13⟩ : ∃ z, z = u1 sc5 11 (0) ∧ tm z ai al az v0 v11 := ⟨_, rfl, tm_ps 11 hM6 (by omega) b9 h10⟩
  refine w_ldA e101_10 (fun _ => rfl) rfl ?_
  refine w_kI e101_11 ?_
  have e15 := tm_o hM13
  refine w_put e101_12 e15 (Nat.le_of_ble_eq_true rfl) (vz_okz (by omega)) (fun v18 b16 h17 => ?_)
  obtain ⟨sc19, hd21, hM20⟩ : ∃ z, z = u1 sc12 12 (0) ∧ tm z ai al az v0 v18 := ⟨_, rfl, tm_ps 12 hM13 (by omega) b16 h17⟩
  refine w_ldA e101_15 (fun _ => rfl) rfl ?_
  refine w_kI e101_16 ?_
  have e22 := tm_o hM20
  refine w_put e101_17 e22 (Nat.le_of_ble_eq_true rfl) (vz_okz (by omega)) (fun v25 b23 h24 => ?_)
  obtain ⟨sc26, hd28, hM27⟩ : ∃ z, z = u1 sc19 18 (0) ∧ tm z ai al az v0 v25 := ⟨_, rfl, tm_ps 18 hM20 (by omega) b23 h24⟩
  exact w_rv e101_20 rfl ⟨(by have h9 := hM27; rw [hd28, hd21, hd14, hd7] at h9; exact h9), rfl⟩
