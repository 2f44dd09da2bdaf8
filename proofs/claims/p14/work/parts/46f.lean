set_option maxRecDepth 100000 in
set_option maxHeartbeats 4000000 in
theorem r115 {sc : Nat → Int} {ai : Nat → Nat → Int} {al : Nat → Nat → Int64} {az : Nat → Nat → Int32} {v0 vh : vm_H} (hM : tm sc ai al az v0 vh) (hK : tmok ai) {i1 : Int} (hi_1 : -2147483648 ≤ i1 ∧ i1 < 2147483648) {i2 : Int} (hi_2 : -2147483648 ≤ i2 ∧ i2 < 2147483648) {i3 : Int} (hi_3 : -2147483648 ≤ i3 ∧ i3 < 2147483648) {fr : Nat → Bool} {V : Nat → Nat} {nv : Nat} (hv : sc 1 = (nv : Int)) (hvr : vR ai = V) (hfr : frR az ai = fr) (hV : pmV V nv) {m : Nat} {S : Nat → Po × Nat × Nat} (hms : msQ fr V nv sc ai al m S) (hp4 : 0 ≤ sc 4 ∧ sc 4 ≤ 16) (hm11 : 0 ≤ sc 11 ∧ sc 11 ≤ 8) : vm_Rp 5 112 115 [.ref 238, .int (vz i1), .int (vz i2), .int (vz i3)] vh (fun r v1 => ∃ (ai1 : Nat → Nat → Int) (al1 : Nat → Nat → Int64) (q : Int), (slO V nv S (u1 sc 0 0) ai ai1 al al1 i1 i2 q ∧ (((q < 0 ∨ i3 < 0 ∨ ai1 242 q.toNat ≤ i3) ∧ r = some (.long (Int64.ofNat 0))) ∨ ((0 ≤ q ∧ 0 ≤ i3 ∧ i3 < ai1 242 q.toNat) ∧ r = some (.long (al1 243 (60 * q + i3).toNat))))) ∧ tmok ai1 ∧ tm (u1 sc 0 0) ai1 al1 az v0 v1) := by
  refine w_in (m := 1) ?_
  show vm_Wp _ _ _ 0 [some (.ref 238), some (.int (vz i1)), some (.int (vz i2)), some (.int (vz i3)), none] [] _ _
  refine w_ldA e115_0 (fun _ => rfl) rfl ?_
  refine w_kI e115_1 ?_
  have e1 := tm_o hM
  refine w_put e115_2 e1 (Nat.le_of_ble_eq_true rfl) rfl (fun v4 b2 h3 => ?_)
  obtain ⟨sc5, hd7, hM6⟩ : ∃ z, z = u1 sc 0 (0) ∧ tm z ai al az v0 v4 := ⟨_, rfl, tm_ps 0 hM (by omega) b2 h3⟩
  have hs1 : sc5 1 = sc 1 := by rw [hd7, u1_o (by decide)]
  have hs4 : sc5 4 = sc 4 := by rw [hd7, u1_o (by decide)]
  have hs11 : sc5 11 = sc 11 := by rw [hd7, u1_o (by decide)]
  have hs12 : sc5 12 = sc 12 := by rw [hd7, u1_o (by decide)]
  have hs13 : sc5 13 = sc 13 := by rw [hd7, u1_o (by decide)]
  refine w_ldA e115_5 (fun _ => rfl) rfl ?_
  refine w_ldI e115_6 (fun _ => rfl) rfl ?_
  refine w_ldI e115_7 (fun _ => rfl) rfl ?_
  have e8 := tm_o hM6
  refine w_cv e115_8 (by decide) rfl e8 rfl (Nat.le_of_ble_eq_true rfl) (Nat.le_of_ble_eq_true rfl) (Nat.le_of_ble_eq_true rfl) (by decide) (by decide) (r114 hM6 hK hi_1 hi_2 (hs1.trans hv) hvr hfr hV (msQ_u hms hs11) (by omega) (by omega)) (fun o9 v10 hq11 => ?_)
  obtain ⟨ai12, al13, q14, ho15, rfl, hK16, hM17⟩ := hq11
  have hsb := slO_b ho15 (by omega) (by omega)
  have hsk := hK16.1 (q14).toNat
  refine w_stI (j := 4) (A1 := [some (.ref 238), some (.int (vz i1)), some (.int (vz i2)), some (.int (vz i3)), some (.int (vz q14))]) e115_11 (fun _ => rfl) (by decide) rfl ?_
  refine w_ldI e115_13 (fun _ => rfl) rfl ?_
  refine w_if e115_15 (by omega) (fun (h18 : q14 < 0) => ?_) (fun (h18 : 0 ≤ q14) => ?_)
  ·
    refine w_x e115_33 (fun _ => rfl) ?_
    refine w_x e115_34 (fun _ => rfl) ?_
    exact w_rl e115_49 rfl ⟨ai12, al13, q14, ⟨by have h9 := ho15; rw [hd7] at h9; exact h9, Or.inl ⟨by omega, rfl⟩⟩, hK16, by have h9 := hM17; rw [hd7] at h9; exact h9⟩
  ·
    refine w_ldI e115_18 (fun _ => rfl) rfl ?_
    refine w_if e115_19 hi_3 (fun (h19 : i3 < 0) => ?_) (fun (h19 : 0 ≤ i3) => ?_)
    ·
      refine w_x e115_33 (fun _ => rfl) ?_
      refine w_x e115_34 (fun _ => rfl) ?_
      exact w_rl e115_49 rfl ⟨ai12, al13, q14, ⟨by have h9 := ho15; rw [hd7] at h9; exact h9, Or.inl ⟨by omega, rfl⟩⟩, hK16, by have h9 := hM17; rw [hd7] at h9; exact h9⟩
    ·
      refine w_ldI e115_22 (fun _ => rfl) rfl ?_
      refine w_ldA e115_23 (fun _ => rfl) rfl ?_
      have e20 := tm_o hM17
      refine w_get e115_24 e20 rfl ?_
      refine w_ldI e115_27 (fun _ => rfl) rfl ?_
      have e21 := tm_i hM17 (a := 242) (n := 72) rfl
      refine w_ald e115_29 e21 (by omega) (by omega) (by decide) ?_
      show vm_Wp _ _ _ 30 _ [.int (vz (ai12 242 (q14).toNat)), .int (vz i3)] _ _
      have hk22 := hK16.1 (q14).toNat
      refine w_ic e115_30 hi_3 (tm_r hM17 242 (q14).toNat) (fun (h23 : i3 < ai12 242 (q14).toNat) => ?_) (fun (h23 : ai12 242 (q14).toNat ≤ i3) => ?_)
      ·
        refine w_ldA e115_37 (fun _ => rfl) rfl ?_
        refine w_get e115_38 e20 rfl ?_
        refine w_kB e115_41 rfl ?_
        refine w_ldI e115_43 (fun _ => rfl) rfl ?_
        refine w_imul e115_45 ?_
        refine w_ldI e115_46 (fun _ => rfl) rfl ?_
        refine w_iadd e115_47 ?_
        have e24 := tm_l hM17 (a := 243) (n := 4320) rfl
        refine w_lld e115_48 e24 (by omega) (by omega) (by decide) ?_
        exact w_rl e115_49 rfl ⟨ai12, al13, q14, ⟨by have h9 := ho15; rw [hd7] at h9; exact h9, Or.inr ⟨by omega, rfl⟩⟩, hK16, by have h9 := hM17; rw [hd7] at h9; exact h9⟩
      ·
        refine w_x e115_33 (fun _ => rfl) ?_
        refine w_x e115_34 (fun _ => rfl) ?_
        exact w_rl e115_49 rfl ⟨ai12, al13, q14, ⟨by have h9 := ho15; rw [hd7] at h9; exact h9, Or.inl ⟨by omega, rfl⟩⟩, hK16, by have h9 := hM17; rw [hd7] at h9; exact h9⟩
set_option maxRecDepth 100000 in
set_option maxHeartbeats 4000000 in
theorem r120 {sc : Nat → Int} {ai : Nat → Nat → Int} {al : Nat → Nat → Int64} {az : Nat → Nat → Int32} {v0 vh : vm_H} (hM : tm sc ai al az v0 vh) (hK : tmok ai) {i1 : Int} (hi_1 : -2147483648 ≤ i1 ∧ i1 < 2147483648) {i2 : Int} (hi_2 : -2147483648 ≤ i2 ∧ i2 < 2147483648) {fr : Nat → Bool} {V : Nat → Nat} {nv : Nat} (hv : sc 1 = (nv : Int)) (hvr : vR ai = V) (hfr : frR az ai = fr) (hV : pmV V nv) {m : Nat} {S : Nat → Po × Nat × Nat} (hms : msQ fr V nv sc ai al m S) (hp4 : 0 ≤ sc 4 ∧ sc 4 ≤ 16) (hm11 : 0 ≤ sc 11 ∧ sc 11 ≤ 8) : vm_Rp 5 112 120 [.ref 238, .int (vz i1), .int (vz i2)] vh (fun r v1 => ∃ (ai1 : Nat → Nat → Int) (al1 : Nat → Nat → Int64) (q : Int), (slO V nv S (u1 sc 0 0) ai ai1 al al1 i1 i2 q ∧ ((q < 0 ∧ r = some (.long (Int64.ofNat 0))) ∨ (0 ≤ q ∧ r = some (.long (voF (al1 245) (fun t => al1 244 (60 * q.toNat + t)) (fun t => al1 243 (60 * q.toNat + t)) (ai1 242 q.toNat).toNat))))) ∧ tmok ai1 ∧ tm (u1 sc 0 0) ai1 al1 az v0 v1) := by
  refine w_in (m := 1) ?_
  show vm_Wp _ _ _ 0 [some (.ref 238), some (.int (vz i1)), some (.int (vz i2)), none] [] _ _
  refine w_ldA e120_0 (fun _ => rfl) rfl ?_
  refine w_kI e120_1 ?_
  have e1 := tm_o hM
  refine w_put e120_2 e1 (Nat.le_of_ble_eq_true rfl) rfl (fun v4 b2 h3 => ?_)
  obtain ⟨sc5, hd7, hM6⟩ : ∃ z, z = u1 sc 0 (0) ∧ tm z ai al az v0 v4 := ⟨_, rfl, tm_ps 0 hM (by omega) b2 h3⟩
  have hs1 : sc5 1 = sc 1 := by rw [hd7, u1_o (by decide)]
  have hs4 : sc5 4 = sc 4 := by rw [hd7, u1_o (by decide)]
  have hs11 : sc5 11 = sc 11 := by rw [hd7, u1_o (by decide)]
  have hs12 : sc5 12 = sc 12 := by rw [hd7, u1_o (by decide)]
  have hs13 : sc5 13 = sc 13 := by rw [hd7, u1_o (by decide)]
  refine w_ldA e120_5 (fun _ => rfl) rfl ?_
  refine w_ldI e120_6 (fun _ => rfl) rfl ?_
  refine w_ldI e120_7 (fun _ => rfl) rfl ?_
  have e8 := tm_o hM6
  refine w_cv e120_8 (by decide) rfl e8 rfl (Nat.le_of_ble_eq_true rfl) (Nat.le_of_ble_eq_true rfl) (Nat.le_of_ble_eq_true rfl) (by decide) (by decide) (r114 hM6 hK hi_1 hi_2 (hs1.trans hv) hvr hfr hV (msQ_u hms hs11) (by omega) (by omega)) (fun o9 v10 hq11 => ?_)
  obtain ⟨ai12, al13, q14, ho15, rfl, hK16, hM17⟩ := hq11
  have hsb := slO_b ho15 (by omega) (by omega)
  have hsk := hK16.1 (q14).toNat
  refine w_stI (j := 3) (A1 := [some (.ref 238), some (.int (vz i1)), some (.int (vz i2)), some (.int (vz q14))]) e120_11 (fun _ => rfl) (by decide) rfl ?_
  refine w_ldI e120_12 (fun _ => rfl) rfl ?_
  refine w_if e120_13 (by omega) (fun (h18 : 0 ≤ q14) => ?_) (fun (h18 : q14 < 0) => ?_)
  ·
    refine w_ldA e120_20 (fun _ => rfl) rfl ?_
    refine w_ldI e120_21 (fun _ => rfl) rfl ?_
    have e19 := tm_o hM17
    refine w_cv e120_22 (by decide) rfl e19 rfl (Nat.le_of_ble_eq_true rfl) (Nat.le_of_ble_eq_true rfl) (Nat.le_of_ble_eq_true rfl) (by decide) (by decide) (r119 hM17 hK16 (by omega)) (fun o20 v21 hq22 => ?_)
    obtain ⟨rfl, rfl⟩ := hq22
    exact w_rl e120_25 rfl ⟨ai12, al13, q14, ⟨by have h9 := ho15; rw [hd7] at h9; exact h9, Or.inr ⟨by omega, rfl⟩⟩, hK16, by have h9 := hM17; rw [hd7] at h9; exact h9⟩
  ·
    refine w_x e120_16 (fun _ => rfl) ?_
    refine w_x e120_17 (fun _ => rfl) ?_
    exact w_rl e120_25 rfl ⟨ai12, al13, q14, ⟨by have h9 := ho15; rw [hd7] at h9; exact h9, Or.inl ⟨by omega, rfl⟩⟩, hK16, by have h9 := hM17; rw [hd7] at h9; exact h9⟩
