theorem e122_0 : vm_ent 122 0 = some (.aload_n 0, 0, 0, 0) := by decide +kernel
theorem e122_1 : vm_ent 122 1 = some (.lload_n 3, 0, 0, 0) := by decide +kernel
theorem e122_2 : vm_ent 122 2 = some (.lconst 0, 0, 0, 0) := by decide +kernel
theorem e122_3 : vm_ent 122 3 = some (.lcmp, 0, 0, 0) := by decide +kernel
theorem e122_4 : vm_ent 122 4 = some (.ifCond .ne 7, 11, 0, 0) := by decide +kernel
theorem e122_7 : vm_ent 122 7 = some (.iconst 1, 0, 0, 0) := by decide +kernel
theorem e122_8 : vm_ent 122 8 = some (.goto 4, 12, 0, 0) := by decide +kernel
theorem e122_11 : vm_ent 122 11 = some (.iconst 0, 0, 0, 0) := by decide +kernel
theorem e122_12 : vm_ent 122 12 = some (.putfield 84, 6, 0, 634) := by decide +kernel
theorem e122_15 : vm_ent 122 15 = some (.aload_n 0, 0, 0, 0) := by decide +kernel
theorem e122_16 : vm_ent 122 16 = some (.getfield 84, 6, 0, 634) := by decide +kernel
theorem e122_19 : vm_ent 122 19 = some (.ifCond .le 7, 26, 0, 0) := by decide +kernel
theorem e122_22 : vm_ent 122 22 = some (.lconst 0, 0, 0, 0) := by decide +kernel
theorem e122_23 : vm_ent 122 23 = some (.goto 9, 32, 0, 0) := by decide +kernel
theorem e122_26 : vm_ent 122 26 = some (.lload_n 1, 0, 0, 0) := by decide +kernel
theorem e122_27 : vm_ent 122 27 = some (.bipush 32, 0, 0, 0) := by decide +kernel
theorem e122_29 : vm_ent 122 29 = some (.lshl, 0, 0, 0) := by decide +kernel
theorem e122_30 : vm_ent 122 30 = some (.lload_n 3, 0, 0, 0) := by decide +kernel
theorem e122_31 : vm_ent 122 31 = some (.ldiv, 0, 0, 0) := by decide +kernel
theorem e122_32 : vm_ent 122 32 = some (.lreturn, 0, 0, 0) := by decide +kernel
theorem c122n {sc : Nat → Int} {ai : Nat → Nat → Int} {al : Nat → Nat → Int64} {az : Nat → Nat → Int32} {v0 vh : vm_H} (hM : tm sc ai al az v0 vh) (a b : Int64) (hb0 : ¬ b = 0) : vm_Rp 0 0 122 [.ref 238, .long a, .long b] vh (fun q v1 => tm (u1 sc 0 0) ai al az v0 v1 ∧ q = some (.long (a <<< (Int32.toInt64 (Int8.ofInt 32).toInt32 &&& 63) / b))) := by
  refine w_in (m := 0) ?_
  show vm_Wp _ _ _ 0 [some (.ref 238), some (.long a), none, some (.long b), none] [] _ _
  refine w_ldA e122_0 (fun _ => rfl) rfl ?_
  refine w_ldL e122_1 (fun _ => rfl) rfl ?_
  refine w_x e122_2 (fun _ => rfl) ?_
  refine w_lcmp e122_3 (fun q hq h1 h2 => ?_)
  refine w_if e122_4 (by omega) (fun (h : q ≠ 0) => ?_) (fun (h : q = 0) => absurd (h1.mp h) hb0)
  refine w_kI e122_11 ?_
  refine w_put e122_12 (tm_o hM) (Nat.le_of_ble_eq_true rfl) rfl (fun v1 b1 hc => ?_)
  have hM1 := tm_ps 0 hM (q := 0) (by omega) b1 hc
  refine w_ldA e122_15 (fun _ => rfl) rfl ?_
  refine w_get e122_16 (tm_o hM1) rfl ?_
  show vm_Wp _ _ _ 19 _ [.int (vz 0)] _ _
  refine w_if e122_19 (by omega) (fun _ => ?_) (fun (h : (0 : Int) < 0) => absurd h (by decide))
  refine w_ldL e122_26 (fun _ => rfl) rfl ?_
  refine w_x e122_27 (fun _ => rfl) ?_
  refine w_x e122_29 (fun _ => rfl) ?_
  refine w_ldL e122_30 (fun _ => rfl) rfl ?_
  refine w_div e122_31 hb0 ?_
  exact w_rl e122_32 rfl ⟨hM1, rfl⟩
theorem c122z {sc : Nat → Int} {ai : Nat → Nat → Int} {al : Nat → Nat → Int64} {az : Nat → Nat → Int32} {v0 vh : vm_H} (hM : tm sc ai al az v0 vh) (a b : Int64) (hb0 : b = 0) : vm_Rp 0 0 122 [.ref 238, .long a, .long b] vh (fun q v1 => tm (u1 sc 0 1) ai al az v0 v1 ∧ ∃ l : Int64, q = some (.long l)) := by
  refine w_in (m := 0) ?_
  show vm_Wp _ _ _ 0 [some (.ref 238), some (.long a), none, some (.long b), none] [] _ _
  refine w_ldA e122_0 (fun _ => rfl) rfl ?_
  refine w_ldL e122_1 (fun _ => rfl) rfl ?_
  refine w_x e122_2 (fun _ => rfl) ?_
  refine w_lcmp e122_3 (fun q hq h1 h2 => ?_)
  refine w_if e122_4 (by omega) (fun (h : q ≠ 0) => absurd (h1.mpr hb0) h) (fun (h : q = 0) => ?_)
  refine w_kI e122_7 ?_
  refine w_x e122_8 (fun _ => rfl) ?_
  refine w_put e122_12 (tm_o hM) (Nat.le_of_ble_eq_true rfl) rfl (fun v1 b1 hc => ?_)
  have hM1 := tm_ps 0 hM (q := 1) (by omega) b1 hc
  refine w_ldA e122_15 (fun _ => rfl) rfl ?_
  refine w_get e122_16 (tm_o hM1) rfl ?_
  show vm_Wp _ _ _ 19 _ [.int (vz 1)] _ _
  refine w_if e122_19 (by omega) (fun (h : (1 : Int) ≤ 0) => absurd h (by decide)) (fun _ => ?_)
  refine w_x e122_22 (fun _ => rfl) ?_
  refine w_x e122_23 (fun _ => rfl) ?_
  exact w_rl e122_32 rfl ⟨hM1, _, rfl⟩
theorem y122n {L : Nat} {xs : Nat → Int32} {vh : vm_H} {n p n2 p2 t : Int} {g : Int64} {u w : Nat → Int32} (h : lI L xs vh n p n2 p2 t g u w) (a b : Int64) (hb0 : ¬ b = 0) : vm_Rp 0 0 122 [.ref 238, .long a, .long b] vh (fun r v1 => lI L xs v1 n p n2 p2 0 g u w ∧ r = some (.long (a <<< (Int32.toInt64 (Int8.ofInt 32).toInt32 &&& 63) / b))) := by
  obtain ⟨θ, sc, ai, al, az, fo, ⟨⟨rfl, rfl⟩, ⟨rfl, rfl⟩, ⟨rfl, rfl⟩, rfl, rfl⟩, hT, hM, hK, hI, hR, hS, hO⟩ := h
  refine (c122n hM a b hb0).imp fun r v1 hq => ?_
  exact ⟨lI_y hT hq.1 hK (gi_s hI rfl (by decide) (by decide) (by decide)) (ri2_fr hR hK (fr_s (X := [0]) (Y := []) (lo := 1) (hi := 0) (fr_0 _ _ _ _ sc ai al az) rfl rfl) rfl rfl rfl rfl rfl rfl rfl rfl rfl (by omega)) hS hO, hq.2⟩
theorem y122z {L : Nat} {xs : Nat → Int32} {vh : vm_H} {n p n2 p2 t : Int} {g : Int64} {u w : Nat → Int32} (h : lI L xs vh n p n2 p2 t g u w) (a b : Int64) (hb0 : b = 0) : vm_Rp 0 0 122 [.ref 238, .long a, .long b] vh (fun r v1 => lI L xs v1 n p n2 p2 1 g u w ∧ ∃ l : Int64, r = some (.long l)) := by
  obtain ⟨θ, sc, ai, al, az, fo, ⟨⟨rfl, rfl⟩, ⟨rfl, rfl⟩, ⟨rfl, rfl⟩, rfl, rfl⟩, hT, hM, hK, hI, hR, hS, hO⟩ := h
  refine (c122z hM a b hb0).imp fun r v1 hq => ?_
  exact ⟨lI_y hT hq.1 hK (gi_s hI rfl (by decide) (by decide) (by decide)) (ri2_fr hR hK (fr_s (X := [0]) (Y := []) (lo := 1) (hi := 0) (fr_0 _ _ _ _ sc ai al az) rfl rfl) rfl rfl rfl rfl rfl rfl rfl rfl rfl (by omega)) hS hO, hq.2⟩

set_option maxRecDepth 100000 in
set_option maxHeartbeats 4000000 in
theorem c48x {θ : tc_S} {v0 : Bool × vm_H} {vh : vm_H} (hz : v0.1 = false) (hT : tc θ v0 vh) {i1 : Int} (hi_1 : -2147483648 ≤ i1 ∧ i1 < 2147483648) {i2 : Int} (hi_2 : 0 ≤ i2 ∧ i2 ≤ 1) : vm_Rp 2 43 48 [.ref 1, .int (vz i1), .int (vz i2)] vh (fun r v1 => ∃ (θ1 : tc_S) (q : Int), (θ1.1 = θ.1 ∧ θ1.2.1 = θ.2.1) ∧ tc θ1 v0 v1 ∧ ((q = 0 ∧ θ1.2.2.1 = θ.2.2.1 ∧ ((i1 < 0 ∨ θ.2.1 ≤ i1) ∨ θ.2.2.1 (i1).toNat = vz i2)) ∨ (q = 1 ∧ (0 ≤ i1 ∧ i1 < θ.2.1) ∧ θ.2.2.1 (i1).toNat ≠ vz i2 ∧ θ1.2.2.1 = upd θ.2.2.1 (i1).toNat (vz i2 &&& 1))) ∧ r = some (.int (vz q))) := by
  have hok : (0 ≤ θ.1 ∧ θ.1 ≤ 8) ∧ (0 ≤ θ.2.1 ∧ θ.2.1 ≤ 16) ∧ (-2147483648 ≤ θ.2.2.2.1 ∧ θ.2.2.2.1 < 2147483648) ∧ (0 ≤ θ.2.2.2.2 ∧ θ.2.2.2.2 ≤ 8) := hT.1
  refine w_in (m := 0) ?_
  show vm_Wp _ _ _ 0 [some (.ref 1), some (.int (vz i1)), some (.int (vz i2))] [] _ _
  refine w_ldA e48_0 (fun _ => rfl) rfl ?_
  refine w_ldI e48_1 (fun _ => rfl) rfl ?_
  obtain ⟨m2, m3, m4, m5, hm6, hm7, hm8, hm9, hm10, hm11, e1⟩ := tc_main hT
  refine w_cv e48_2 (by decide) rfl e1 rfl (Nat.le_of_ble_eq_true rfl) (Nat.le_of_ble_eq_true rfl) (Nat.le_of_ble_eq_true rfl) (by decide) (by decide) (c59 hz hT hi_1) (fun o12 v13 hq14 => ?_)
  obtain ⟨rfl, q16, h17, rfl⟩ := hq14
  refine w_if e48_5 (by omega) (fun (h18 : q16 = 0) => ?_) (fun (h18 : q16 ≠ 0) => ?_)
  ·
    refine w_kI e48_18 ?_
    exact w_rz e48_19 rfl (by omega) ⟨θ, 0, ⟨rfl, rfl⟩, hT, Or.inl ⟨rfl, rfl, Or.inl (by omega)⟩, rfl⟩
  ·
    refine w_ldA e48_8 (fun _ => rfl) rfl ?_
    refine w_get e48_9 e1 rfl ?_
    refine w_ldI e48_12 (fun _ => rfl) rfl ?_
    have e19 := tc_hyps hT
    refine w_zldO e48_13 e19 (by omega) (by omega) (by decide) (fun q20 h21 h22 => ?_)
    refine w_ldI e48_14 (fun _ => rfl) rfl ?_
    refine w_ic e48_15 h21 (by omega) (fun (h23 : q20 ≠ i2) => ?_) (fun (h23 : q20 = i2) => ?_)
    ·
      refine w_ldA e48_20 (fun _ => rfl) rfl ?_
      refine w_get e48_21 e1 rfl ?_
      refine w_ldI e48_24 (fun _ => rfl) rfl ?_
      refine w_ldI e48_25 (fun _ => rfl) rfl ?_
      refine w_zst e48_26 e19 (by omega) (by omega) (by decide) (fun v26 b24 h25 => ?_)
      obtain ⟨θ28, hy29, hr30, hT27⟩ := ts_hy hT b24 h25
      have hok31 : (0 ≤ θ28.1 ∧ θ28.1 ≤ 8) ∧ (0 ≤ θ28.2.1 ∧ θ28.2.1 ≤ 16) ∧ (-2147483648 ≤ θ28.2.2.2.1 ∧ θ28.2.2.2.1 < 2147483648) ∧ (0 ≤ θ28.2.2.2.2 ∧ θ28.2.2.2.2 ≤ 8) := hT27.1
      refine w_ldA e48_27 (fun _ => rfl) rfl ?_
      obtain ⟨m33, m34, m35, m36, hm37, hm38, hm39, hm40, hm41, hm42, e32⟩ := tc_main hT27
      refine w_cv e48_28 (by decide) rfl e32 rfl (Nat.le_of_ble_eq_true rfl) (Nat.le_of_ble_eq_true rfl) (Nat.le_of_ble_eq_true rfl) (by decide) (by decide) (c63 hz hT27) (fun o43 v44 hq45 => ?_)
      obtain ⟨hT46, rfl⟩ := hq45
      refine w_kI e48_31 ?_
      exact w_rz e48_32 rfl (by omega) ⟨θ28, 1, ⟨hr30.1, hr30.2.1⟩, hT46, Or.inr ⟨rfl, by omega, fun e => h23 ((vz_inj h21 (by omega)).mp (h22.symm.trans e)), hy29⟩, rfl⟩
    ·
      refine w_kI e48_18 ?_
      exact w_rz e48_19 rfl (by omega) ⟨θ, 0, ⟨rfl, rfl⟩, hT, Or.inl ⟨rfl, rfl, Or.inr (by rw [h22, h23])⟩, rfl⟩
theorem upd_u2 {az : Nat → Nat → Int32} {a i : Nat} {v : Int32} : u2 az a i v a = upd (az a) i v := by
  funext j
  unfold u2 upd
  by_cases h : j = i
  · rw [if_pos ⟨rfl, h⟩, if_pos h]
  · rw [if_neg (fun q => h q.2), if_neg h]
theorem x48 {L : Nat} {xs : Nat → Int32} {vh : vm_H} {n p n2 p2 t : Int} {g : Int64} {u w : Nat → Int32} (h : lI L xs vh n p n2 p2 t g u w) {i1 : Int} (hi_1 : -2147483648 ≤ i1 ∧ i1 < 2147483648) {i2 : Int} (hi_2 : 0 ≤ i2 ∧ i2 ≤ 1) : vm_Rp 2 43 48 [.ref 1, .int (vz i1), .int (vz i2)] vh (fun r v1 => ∃ (u1 : Nat → Int32) (q : Int), lI L xs v1 n p n2 p2 t g u1 w ∧ ((q = 0 ∧ u1 = u ∧ ((i1 < 0 ∨ p ≤ i1) ∨ u (i1).toNat = vz i2)) ∨ (q = 1 ∧ (0 ≤ i1 ∧ i1 < p) ∧ u (i1).toNat ≠ vz i2 ∧ u1 = upd u (i1).toNat (vz i2 &&& 1))) ∧ r = some (.int (vz q))) := by
  obtain ⟨θ, sc, ai, al, az, fo, ⟨⟨rfl, rfl⟩, ⟨rfl, rfl⟩, ⟨rfl, rfl⟩, rfl, rfl⟩, hT, hM, hK, hI, hR, hS, hO⟩ := h
  refine (c48x rfl hT hi_1 hi_2).imp fun r v1 hq => ?_
  obtain ⟨θ1, q, ⟨e1, e2⟩, hT1, hq, rfl⟩ := hq
  have h9 := lI_x hT1 hM hK hI hR hS hO
  rw [e1, e2] at h9
  exact ⟨_, q, h9, hq, rfl⟩
theorem y109 {L : Nat} {xs : Nat → Int32} {vh : vm_H} {n p n2 p2 t : Int} {g : Int64} {u w : Nat → Int32} (h : lI L xs vh n p n2 p2 t g u w) {i1 : Int} (hi_1 : -2147483648 ≤ i1 ∧ i1 < 2147483648) {i2 : Int} (hi_2 : 0 ≤ i2 ∧ i2 ≤ 1) : vm_Rp 1 21 109 [.ref 238, .int (vz i1), .int (vz i2)] vh (fun r v1 => ∃ (t1 : Int) (u1 : Nat → Int32) (q : Int), lI L xs v1 n p n2 p2 t1 g u u1 ∧ ((q = 0 ∧ u1 = w ∧ ((i1 < 0 ∨ p2 ≤ i1) ∨ w (i1).toNat = vz i2)) ∨ (q = 1 ∧ (0 ≤ i1 ∧ i1 < p2) ∧ w (i1).toNat ≠ vz i2 ∧ u1 = upd w (i1).toNat (vz i2 &&& 1))) ∧ r = some (.int (vz q))) := by
  obtain ⟨θ, sc, ai, al, az, fo, ⟨⟨rfl, rfl⟩, ⟨rfl, rfl⟩, ⟨rfl, rfl⟩, rfl, rfl⟩, hT, hM, hK, hI, hR, hS, hO⟩ := h
  refine (c109 hM hK hI hi_1 hi_2 hR).imp fun r v1 hq => ?_
  obtain ⟨⟨sc1, ai1, al1, az1, hM1, hK1, hI1, hF, hE⟩, q, hq, rfl⟩ := hq
  have h9 := lI_y hT hM1 hK1 hI1 hE.1 hS hO
  rw [hF.1 1 rfl, hF.1 4 rfl] at h9
  refine ⟨_, _, q, h9, ?_, rfl⟩
  rcases hE.2 with ⟨e, hc⟩ | ⟨e, hc⟩
  · have q0 : q = 0 := by
      have h1 : ¬ q = 1 := fun z => hc (hq.2.mp z)
      omega
    refine Or.inl ⟨q0, e, ?_⟩
    by_cases h2 : i1 < 0 ∨ sc 4 ≤ i1
    · exact Or.inl h2
    · refine Or.inr ?_
      by_cases h3 : az 241 (i1).toNat = vz i2
      · exact h3
      · exact absurd ⟨by omega, h3⟩ hc
  · exact Or.inr ⟨hq.2.mpr hc, hc.1, hc.2, e.trans upd_u2⟩
theorem y107 {L : Nat} {xs : Nat → Int32} {vh : vm_H} {n p n2 p2 t : Int} {g : Int64} {u w : Nat → Int32} (h : lI L xs vh n p n2 p2 t g u w) : vm_Rp 0 0 107 [.ref 238] vh (fun r v1 => ∃ (p1 t1 : Int) (w1 : Nat → Int32) (q : Int), (w1 = w ∨ w1 = upd w p2.toNat 0) ∧ ((p2 = 16 ∧ p1 = p2) ∨ (p2 ≠ 16 ∧ p1 = p2 + 1)) ∧ lI L xs v1 n p n2 p1 t1 g u w1 ∧ ((p2 = 16 ∧ q = -1) ∨ (p2 ≠ 16 ∧ q = p2)) ∧ r = some (.int (vz q))) := by
  obtain ⟨θ, sc, ai, al, az, fo, ⟨⟨rfl, rfl⟩, ⟨rfl, rfl⟩, ⟨rfl, rfl⟩, rfl, rfl⟩, hT, hM, hK, hI, hR, hS, hO⟩ := h
  refine (c107 hM hK hI hR).imp fun r v1 hq => ?_
  obtain ⟨⟨sc1, ai1, al1, az1, hM1, hK1, hI1, hF, hE⟩, q, hq, rfl⟩ := hq
  have h9 := lI_y hT hM1 hK1 hI1 hE.1 hS hO
  rw [hF.1 1 rfl] at h9
  refine ⟨_, _, _, q, ?_, hE.2.2, h9, hq, rfl⟩
  rcases hE.2.1 with e | ⟨j, ej, e⟩
  · exact Or.inl e
  · refine Or.inr ?_
    rw [e, upd_u2, ej]
    rfl

theorem x44 {L : Nat} {xs : Nat → Int32} {vh : vm_H} {n p n2 p2 t : Int} {g : Int64} {u w : Nat → Int32} (h : lI L xs vh n p n2 p2 t g u w) {i1 : Int} (hi_1 : 0 ≤ i1 ∧ i1 ≤ 1) : vm_Rp 2 43 44 [.ref 1, .int (vz i1)] vh (fun r v1 => (∃ n1 p1 : Int, (((n1 = n ∧ n = 8) ∨ (n1 = n + 1 ∧ n < 8)) ∧ p1 = p) ∧ lI L xs v1 n1 p1 n2 p2 t g u w) ∧ ∃ q : Int, ((q = -1 ∧ n = 8) ∨ (q = n ∧ n < 8)) ∧ r = some (.int (vz q))) := by
  obtain ⟨θ, sc, ai, al, az, fo, ⟨⟨rfl, rfl⟩, ⟨rfl, rfl⟩, ⟨rfl, rfl⟩, rfl, rfl⟩, hT, hM, hK, hI, hR, hS, hO⟩ := h
  refine (c44 rfl hT hi_1).imp fun r v1 hq => ?_
  obtain ⟨⟨θ1, hy, hr, hT1⟩, q, hq, rfl⟩ := hq
  have h9 := lI_x hT1 hM hK hI hR hS hO
  rw [hy] at h9
  exact ⟨⟨_, _, hr, h9⟩, q, hq, rfl⟩
theorem x45 {L : Nat} {xs : Nat → Int32} {vh : vm_H} {n p n2 p2 t : Int} {g : Int64} {u w : Nat → Int32} (h : lI L xs vh n p n2 p2 t g u w) {i1 : Int} (hi_1 : -2147483648 ≤ i1 ∧ i1 < 2147483648) {i2 : Int} (hi_2 : -2147483648 ≤ i2 ∧ i2 < 2147483648) : vm_Rp 4 91 45 [.ref 1, .int (vz i1), .int (vz i2)] vh (fun r v1 => (∃ n1 p1 : Int, (n1 = n ∧ p1 = p) ∧ lI L xs v1 n1 p1 n2 p2 t g u w) ∧ ∃ q : Int, ((0 ≤ q ∧ q ≤ 1) ∧ ((q = 0 ∧ (i1 < 0 ∨ n ≤ i1 ∨ i2 < 0 ∨ n ≤ i2)) ∨ (q = 1 ∧ 0 ≤ i1 ∧ i1 < n ∧ 0 ≤ i2 ∧ i2 < n))) ∧ r = some (.int (vz q))) := by
  obtain ⟨θ, sc, ai, al, az, fo, ⟨⟨rfl, rfl⟩, ⟨rfl, rfl⟩, ⟨rfl, rfl⟩, rfl, rfl⟩, hT, hM, hK, hI, hR, hS, hO⟩ := h
  refine (c45 rfl hT hi_1 hi_2).imp fun r v1 hq => ?_
  obtain ⟨hT1, q, hq, rfl⟩ := hq
  exact ⟨⟨_, _, ⟨rfl, rfl⟩, lI_x hT1 hM hK hI hR hS hO⟩, q, hq, rfl⟩
theorem x46 {L : Nat} {xs : Nat → Int32} {vh : vm_H} {n p n2 p2 t : Int} {g : Int64} {u w : Nat → Int32} (h : lI L xs vh n p n2 p2 t g u w)  : vm_Rp 0 0 46 [.ref 1] vh (fun r v1 => (∃ n1 p1 : Int, (((p1 = p ∧ p = 16) ∨ (p1 = p + 1 ∧ p < 16)) ∧ n1 = n) ∧ lI L xs v1 n1 p1 n2 p2 t g u w) ∧ ∃ q : Int, ((q = -1 ∧ p = 16) ∨ (q = p ∧ p < 16)) ∧ r = some (.int (vz q))) := by
  obtain ⟨θ, sc, ai, al, az, fo, ⟨⟨rfl, rfl⟩, ⟨rfl, rfl⟩, ⟨rfl, rfl⟩, rfl, rfl⟩, hT, hM, hK, hI, hR, hS, hO⟩ := h
  refine (c46 rfl hT ).imp fun r v1 hq => ?_
  obtain ⟨⟨θ1, hy, hr, hT1⟩, q, hq, rfl⟩ := hq
  have h9 := lI_x hT1 hM hK hI hR hS hO
  rw [hy] at h9
  exact ⟨⟨_, _, hr, h9⟩, q, hq, rfl⟩
theorem x47 {L : Nat} {xs : Nat → Int32} {vh : vm_H} {n p n2 p2 t : Int} {g : Int64} {u w : Nat → Int32} (h : lI L xs vh n p n2 p2 t g u w) {i1 : Int} (hi_1 : -2147483648 ≤ i1 ∧ i1 < 2147483648) {l_2 : Int64} {i3 : Int} (hi_3 : -2147483648 ≤ i3 ∧ i3 < 2147483648) : vm_Rp 3 79 47 [.ref 1, .int (vz i1), .long l_2, .int (vz i3)] vh (fun r v1 => (∃ n1 p1 : Int, (n1 = n ∧ p1 = p) ∧ lI L xs v1 n1 p1 n2 p2 t g u w) ∧ ∃ q : Int, ((0 ≤ q ∧ q ≤ 1)) ∧ r = some (.int (vz q))) := by
  obtain ⟨θ, sc, ai, al, az, fo, ⟨⟨rfl, rfl⟩, ⟨rfl, rfl⟩, ⟨rfl, rfl⟩, rfl, rfl⟩, hT, hM, hK, hI, hR, hS, hO⟩ := h
  refine (c47 rfl hT hi_1 hi_3).imp fun r v1 hq => ?_
  obtain ⟨hT1, q, hq, rfl⟩ := hq
  exact ⟨⟨_, _, ⟨rfl, rfl⟩, lI_x hT1 hM hK hI hR hS hO⟩, q, hq, rfl⟩
theorem x49 {L : Nat} {xs : Nat → Int32} {vh : vm_H} {n p n2 p2 t : Int} {g : Int64} {u w : Nat → Int32} (h : lI L xs vh n p n2 p2 t g u w)  : vm_Rp 6 160 49 [.ref 1] vh (fun r v1 => (∃ n1 p1 : Int, (n1 = n ∧ p1 = p) ∧ lI L xs v1 n1 p1 n2 p2 t g u w) ∧ ∃ q : Int, (-2147483648 ≤ q ∧ q < 2147483648) ∧ r = some (.int (vz q))) := by
  obtain ⟨θ, sc, ai, al, az, fo, ⟨⟨rfl, rfl⟩, ⟨rfl, rfl⟩, ⟨rfl, rfl⟩, rfl, rfl⟩, hT, hM, hK, hI, hR, hS, hO⟩ := h
  refine (c49 rfl hT ).imp fun r v1 hq => ?_
  obtain ⟨⟨θ1, hy, hr, hT1⟩, q, hq, rfl⟩ := hq
  have h9 := lI_x hT1 hM hK hI hR hS hO
  rw [hy] at h9
  exact ⟨⟨_, _, hr, h9⟩, q, hq, rfl⟩
theorem x50 {L : Nat} {xs : Nat → Int32} {vh : vm_H} {n p n2 p2 t : Int} {g : Int64} {u w : Nat → Int32} (h : lI L xs vh n p n2 p2 t g u w) {i1 : Int} (hi_1 : -2147483648 ≤ i1 ∧ i1 < 2147483648) : vm_Rp 4 115 50 [.ref 1, .int (vz i1)] vh (fun r v1 => (∃ n1 p1 : Int, (n1 = n ∧ p1 = p) ∧ lI L xs v1 n1 p1 n2 p2 t g u w) ∧ ∃ q : Int, (-2147483648 ≤ q ∧ q < 2147483648) ∧ r = some (.int (vz q))) := by
  obtain ⟨θ, sc, ai, al, az, fo, ⟨⟨rfl, rfl⟩, ⟨rfl, rfl⟩, ⟨rfl, rfl⟩, rfl, rfl⟩, hT, hM, hK, hI, hR, hS, hO⟩ := h
  refine (c50 rfl hT hi_1).imp fun r v1 hq => ?_
  obtain ⟨hT1, q, hq, rfl⟩ := hq
  exact ⟨⟨_, _, ⟨rfl, rfl⟩, lI_x hT1 hM hK hI hR hS hO⟩, q, hq, rfl⟩
theorem x51 {L : Nat} {xs : Nat → Int32} {vh : vm_H} {n p n2 p2 t : Int} {g : Int64} {u w : Nat → Int32} (h : lI L xs vh n p n2 p2 t g u w) {i1 : Int} (hi_1 : -2147483648 ≤ i1 ∧ i1 < 2147483648) {i2 : Int} (hi_2 : -2147483648 ≤ i2 ∧ i2 < 2147483648) : vm_Rp 2 42 51 [.ref 1, .int (vz i1), .int (vz i2)] vh (fun r v1 => (∃ n1 p1 : Int, (n1 = n ∧ p1 = p) ∧ lI L xs v1 n1 p1 n2 p2 t g u w) ∧ ∃ q : Int, (-2147483648 ≤ q ∧ q < 2147483648) ∧ r = some (.int (vz q))) := by
  obtain ⟨θ, sc, ai, al, az, fo, ⟨⟨rfl, rfl⟩, ⟨rfl, rfl⟩, ⟨rfl, rfl⟩, rfl, rfl⟩, hT, hM, hK, hI, hR, hS, hO⟩ := h
  refine (c51 rfl hT hi_1 hi_2).imp fun r v1 hq => ?_
  obtain ⟨rfl, q, hq, rfl⟩ := hq
  exact ⟨⟨_, _, ⟨rfl, rfl⟩, lI_x hT hM hK hI hR hS hO⟩, q, hq, rfl⟩
theorem x52 {L : Nat} {xs : Nat → Int32} {vh : vm_H} {n p n2 p2 t : Int} {g : Int64} {u w : Nat → Int32} (h : lI L xs vh n p n2 p2 t g u w) {i1 : Int} (hi_1 : -2147483648 ≤ i1 ∧ i1 < 2147483648) : vm_Rp 1 22 52 [.ref 1, .int (vz i1)] vh (fun r v1 => (∃ n1 p1 : Int, (n1 = n ∧ p1 = p) ∧ lI L xs v1 n1 p1 n2 p2 t g u w) ∧ ∃ q : Int, (-2147483648 ≤ q ∧ q < 2147483648) ∧ r = some (.int (vz q))) := by
  obtain ⟨θ, sc, ai, al, az, fo, ⟨⟨rfl, rfl⟩, ⟨rfl, rfl⟩, ⟨rfl, rfl⟩, rfl, rfl⟩, hT, hM, hK, hI, hR, hS, hO⟩ := h
  refine (c52 rfl hT hi_1).imp fun r v1 hq => ?_
  obtain ⟨rfl, q, hq, rfl⟩ := hq
  exact ⟨⟨_, _, ⟨rfl, rfl⟩, lI_x hT hM hK hI hR hS hO⟩, q, hq, rfl⟩
theorem x53 {L : Nat} {xs : Nat → Int32} {vh : vm_H} {n p n2 p2 t : Int} {g : Int64} {u w : Nat → Int32} (h : lI L xs vh n p n2 p2 t g u w) {i1 : Int} (hi_1 : -2147483648 ≤ i1 ∧ i1 < 2147483648) {i2 : Int} (hi_2 : -2147483648 ≤ i2 ∧ i2 < 2147483648) {i3 : Int} (hi_3 : -2147483648 ≤ i3 ∧ i3 < 2147483648) : vm_Rp 3 69 53 [.ref 1, .int (vz i1), .int (vz i2), .int (vz i3)] vh (fun r v1 => (∃ n1 p1 : Int, (n1 = n ∧ p1 = p) ∧ lI L xs v1 n1 p1 n2 p2 t g u w) ∧ ∃ q : Int64, r = some (.long q)) := by
  obtain ⟨θ, sc, ai, al, az, fo, ⟨⟨rfl, rfl⟩, ⟨rfl, rfl⟩, ⟨rfl, rfl⟩, rfl, rfl⟩, hT, hM, hK, hI, hR, hS, hO⟩ := h
  refine (c53 rfl hT hi_1 hi_2 hi_3).imp fun r v1 hq => ?_
  obtain ⟨hT1, q, rfl⟩ := hq
  exact ⟨⟨_, _, ⟨rfl, rfl⟩, lI_x hT1 hM hK hI hR hS hO⟩, q, rfl⟩
theorem x54 {L : Nat} {xs : Nat → Int32} {vh : vm_H} {n p n2 p2 t : Int} {g : Int64} {u w : Nat → Int32} (h : lI L xs vh n p n2 p2 t g u w) {i1 : Int} (hi_1 : -2147483648 ≤ i1 ∧ i1 < 2147483648) {i2 : Int} (hi_2 : -2147483648 ≤ i2 ∧ i2 < 2147483648) {i3 : Int} (hi_3 : -2147483648 ≤ i3 ∧ i3 < 2147483648) : vm_Rp 3 69 54 [.ref 1, .int (vz i1), .int (vz i2), .int (vz i3)] vh (fun r v1 => (∃ n1 p1 : Int, (n1 = n ∧ p1 = p) ∧ lI L xs v1 n1 p1 n2 p2 t g u w) ∧ ∃ q : Int, (-2147483648 ≤ q ∧ q < 2147483648) ∧ r = some (.int (vz q))) := by
  obtain ⟨θ, sc, ai, al, az, fo, ⟨⟨rfl, rfl⟩, ⟨rfl, rfl⟩, ⟨rfl, rfl⟩, rfl, rfl⟩, hT, hM, hK, hI, hR, hS, hO⟩ := h
  refine (c54 rfl hT hi_1 hi_2 hi_3).imp fun r v1 hq => ?_
  obtain ⟨hT1, q, hq, rfl⟩ := hq
  exact ⟨⟨_, _, ⟨rfl, rfl⟩, lI_x hT1 hM hK hI hR hS hO⟩, q, hq, rfl⟩
theorem x55 {L : Nat} {xs : Nat → Int32} {vh : vm_H} {n p n2 p2 t : Int} {g : Int64} {u w : Nat → Int32} (h : lI L xs vh n p n2 p2 t g u w) {i1 : Int} (hi_1 : -2147483648 ≤ i1 ∧ i1 < 2147483648) {l_2 : Int64} : vm_Rp 1 21 55 [.ref 1, .int (vz i1), .long l_2] vh (fun r v1 => (∃ n1 p1 : Int, (n1 = n ∧ p1 = p) ∧ lI L xs v1 n1 p1 n2 p2 t g u w) ∧ ∃ q : Int, ((0 ≤ q ∧ q ≤ 1) ∧ ((q = 0 ∧ (i1 < 0 ∨ n ≤ i1)) ∨ (q = 1 ∧ 0 ≤ i1 ∧ i1 < n))) ∧ r = some (.int (vz q))) := by
  obtain ⟨θ, sc, ai, al, az, fo, ⟨⟨rfl, rfl⟩, ⟨rfl, rfl⟩, ⟨rfl, rfl⟩, rfl, rfl⟩, hT, hM, hK, hI, hR, hS, hO⟩ := h
  refine (c55 rfl hT hi_1).imp fun r v1 hq => ?_
  obtain ⟨hT1, q, hq, rfl⟩ := hq
  exact ⟨⟨_, _, ⟨rfl, rfl⟩, lI_x hT1 hM hK hI hR hS hO⟩, q, hq, rfl⟩
theorem x56 {L : Nat} {xs : Nat → Int32} {vh : vm_H} {n p n2 p2 t : Int} {g : Int64} {u w : Nat → Int32} (h : lI L xs vh n p n2 p2 t g u w) {i1 : Int} (hi_1 : -2147483648 ≤ i1 ∧ i1 < 2147483648) {i2 : Int} (hi_2 : -2147483648 ≤ i2 ∧ i2 < 2147483648) : vm_Rp 3 73 56 [.ref 1, .int (vz i1), .int (vz i2)] vh (fun r v1 => (∃ n1 p1 : Int, (n1 = n ∧ p1 = p) ∧ lI L xs v1 n1 p1 n2 p2 t g u w) ∧ ∃ q : Int64, r = some (.long q)) := by
  obtain ⟨θ, sc, ai, al, az, fo, ⟨⟨rfl, rfl⟩, ⟨rfl, rfl⟩, ⟨rfl, rfl⟩, rfl, rfl⟩, hT, hM, hK, hI, hR, hS, hO⟩ := h
  refine (c56 rfl hT hi_1 hi_2).imp fun r v1 hq => ?_
  obtain ⟨hT1, q, rfl⟩ := hq
  exact ⟨⟨_, _, ⟨rfl, rfl⟩, lI_x hT1 hM hK hI hR hS hO⟩, q, rfl⟩
theorem x57 {L : Nat} {xs : Nat → Int32} {vh : vm_H} {n p n2 p2 t : Int} {g : Int64} {u w : Nat → Int32} (h : lI L xs vh n p n2 p2 t g u w) {i1 : Int} (hi_1 : -2147483648 ≤ i1 ∧ i1 < 2147483648) : vm_Rp 3 92 57 [.ref 1, .int (vz i1)] vh (fun r v1 => (∃ n1 p1 : Int, (n1 = n ∧ p1 = p) ∧ lI L xs v1 n1 p1 n2 p2 t g u w) ∧ ∃ q : Int64, r = some (.long q)) := by
  obtain ⟨θ, sc, ai, al, az, fo, ⟨⟨rfl, rfl⟩, ⟨rfl, rfl⟩, ⟨rfl, rfl⟩, rfl, rfl⟩, hT, hM, hK, hI, hR, hS, hO⟩ := h
  refine (c57 rfl hT hi_1).imp fun r v1 hq => ?_
  obtain ⟨hT1, q, rfl⟩ := hq
  exact ⟨⟨_, _, ⟨rfl, rfl⟩, lI_x hT1 hM hK hI hR hS hO⟩, q, rfl⟩
theorem y105 {L : Nat} {xs : Nat → Int32} {vh : vm_H} {n p n2 p2 t : Int} {g : Int64} {u w : Nat → Int32} (h : lI L xs vh n p n2 p2 t g u w) {i1 : Int} (hi_1 : 0 ≤ i1 ∧ i1 ≤ 1) : vm_Rp 1 20 105 [.ref 238, .int (vz i1)] vh (fun r v1 => (∃ n1 p1 t1 : Int, (((n2 = 8 ∧ n1 = n2) ∨ (n2 ≠ 8 ∧ n1 = n2 + 1)) ∧ p1 = p2) ∧ lI L xs v1 n p n1 p1 t1 g u w) ∧ ∃ q : Int, ((n2 = 8 ∧ q = -1) ∨ (n2 ≠ 8 ∧ q = n2)) ∧ r = some (.int (vz q))) := by
  obtain ⟨θ, sc, ai, al, az, fo, ⟨⟨rfl, rfl⟩, ⟨rfl, rfl⟩, ⟨rfl, rfl⟩, rfl, rfl⟩, hT, hM, hK, hI, hR, hS, hO⟩ := h
  refine (c105 hM hK hI hi_1 hR).imp fun r v1 hq => ?_
  obtain ⟨⟨sc1, ai1, al1, az1, hM1, hK1, hI1, hF, hE⟩, q, hq, rfl⟩ := hq
  have h9 := lI_y hT hM1 hK1 hI1 hE.1 hS hO
  rw [hF.2.2.2.2 241 rfl] at h9
  exact ⟨⟨_, _, _, ⟨hE.2, hF.1 4 rfl⟩, h9⟩, q, hq, rfl⟩
theorem y106 {L : Nat} {xs : Nat → Int32} {vh : vm_H} {n p n2 p2 t : Int} {g : Int64} {u w : Nat → Int32} (h : lI L xs vh n p n2 p2 t g u w) {i1 : Int} (hi_1 : -2147483648 ≤ i1 ∧ i1 < 2147483648) {i2 : Int} (hi_2 : -2147483648 ≤ i2 ∧ i2 < 2147483648) : vm_Rp 3 77 106 [.ref 238, .int (vz i1), .int (vz i2)] vh (fun r v1 => (∃ n1 p1 t1 : Int, (n1 = n2 ∧ p1 = p2) ∧ lI L xs v1 n p n1 p1 t1 g u w) ∧ ∃ q : Int, ((0 ≤ q ∧ q ≤ 1) ∧ (q = 1 ↔ (0 ≤ i2 ∧ i2 < n2 ∧ 0 ≤ i1 ∧ i1 < n2))) ∧ r = some (.int (vz q))) := by
  obtain ⟨θ, sc, ai, al, az, fo, ⟨⟨rfl, rfl⟩, ⟨rfl, rfl⟩, ⟨rfl, rfl⟩, rfl, rfl⟩, hT, hM, hK, hI, hR, hS, hO⟩ := h
  refine (c106 hM hK hI hi_1 hi_2 hR).imp fun r v1 hq => ?_
  obtain ⟨⟨sc1, ai1, al1, az1, hM1, hK1, hI1, hF, hE⟩, q, hq, rfl⟩ := hq
  have h9 := lI_y hT hM1 hK1 hI1 hE hS hO
  rw [hF.2.2.2.2 241 rfl] at h9
  exact ⟨⟨_, _, _, ⟨hF.1 1 rfl, hF.1 4 rfl⟩, h9⟩, q, hq, rfl⟩
theorem y108 {L : Nat} {xs : Nat → Int32} {vh : vm_H} {n p n2 p2 t : Int} {g : Int64} {u w : Nat → Int32} (h : lI L xs vh n p n2 p2 t g u w) {i1 : Int} (hi_1 : -2147483648 ≤ i1 ∧ i1 < 2147483648) {l_2 : Int64} {i3 : Int} (hi_3 : -2147483648 ≤ i3 ∧ i3 < 2147483648) : vm_Rp 3 77 108 [.ref 238, .int (vz i1), .long l_2, .int (vz i3)] vh (fun r v1 => (∃ n1 p1 t1 : Int, (n1 = n2 ∧ p1 = p2) ∧ lI L xs v1 n p n1 p1 t1 g u w) ∧ ∃ q : Int, ((0 ≤ q ∧ q ≤ 1)) ∧ r = some (.int (vz q))) := by
  obtain ⟨θ, sc, ai, al, az, fo, ⟨⟨rfl, rfl⟩, ⟨rfl, rfl⟩, ⟨rfl, rfl⟩, rfl, rfl⟩, hT, hM, hK, hI, hR, hS, hO⟩ := h
  refine (c108 hM hK hI hi_1 hi_3 hR).imp fun r v1 hq => ?_
  obtain ⟨⟨sc1, ai1, al1, az1, hM1, hK1, hI1, hF, hE⟩, q, hq, rfl⟩ := hq
  have h9 := lI_y hT hM1 hK1 hI1 hE hS hO
  rw [hF.2.2.2.2 241 rfl] at h9
  exact ⟨⟨_, _, _, ⟨hF.1 1 rfl, hF.1 4 rfl⟩, h9⟩, q, hq, rfl⟩
theorem y102 {L : Nat} {xs : Nat → Int32} {vh : vm_H} {n p n2 p2 t : Int} {g : Int64} {u w : Nat → Int32} (h : lI L xs vh n p n2 p2 t g u w)  : vm_Rp 7 181 102 [.ref 238] vh (fun r v1 => (∃ n1 p1 t1 : Int, (n1 = n2 ∧ p1 = p2) ∧ lI L xs v1 n p n1 p1 t1 g u w) ∧ ∃ q : Int, (-1 ≤ q ∧ q ≤ 3) ∧ r = some (.int (vz q))) := by
  obtain ⟨θ, sc, ai, al, az, fo, ⟨⟨rfl, rfl⟩, ⟨rfl, rfl⟩, ⟨rfl, rfl⟩, rfl, rfl⟩, hT, hM, hK, hI, hR, hS, hO⟩ := h
  refine (c102 hM hK hI  hR).imp fun r v1 hq => ?_
  obtain ⟨⟨sc1, ai1, al1, az1, hM1, hK1, hI1, hF, hE⟩, q, hq, rfl⟩ := hq
  have h9 := lI_y hT hM1 hK1 hI1 hE hS hO
  rw [hF.2.2.2.2 241 rfl] at h9
  exact ⟨⟨_, _, _, ⟨hF.1 1 rfl, hF.1 4 rfl⟩, h9⟩, q, hq, rfl⟩
theorem y104 {L : Nat} {xs : Nat → Int32} {vh : vm_H} {n p n2 p2 t : Int} {g : Int64} {u w : Nat → Int32} (h : lI L xs vh n p n2 p2 t g u w) {i1 : Int} (hi_1 : -2147483648 ≤ i1 ∧ i1 < 2147483648) : vm_Rp 6 157 104 [.ref 238, .int (vz i1)] vh (fun r v1 => (∃ n1 p1 t1 : Int, (n1 = n2 ∧ p1 = p2) ∧ lI L xs v1 n p n1 p1 t1 g u w) ∧ ∃ q : Int, (-1 ≤ q ∧ q ≤ 2) ∧ r = some (.int (vz q))) := by
  obtain ⟨θ, sc, ai, al, az, fo, ⟨⟨rfl, rfl⟩, ⟨rfl, rfl⟩, ⟨rfl, rfl⟩, rfl, rfl⟩, hT, hM, hK, hI, hR, hS, hO⟩ := h
  refine (c104 hM hK hI hi_1 hR).imp fun r v1 hq => ?_
  obtain ⟨⟨sc1, ai1, al1, az1, hM1, hK1, hI1, hF, hE⟩, q, hq, rfl⟩ := hq
  have h9 := lI_y hT hM1 hK1 hI1 hE hS hO
  rw [hF.2.2.2.2 241 rfl] at h9
  exact ⟨⟨_, _, _, ⟨hF.1 1 rfl, hF.1 4 rfl⟩, h9⟩, q, hq, rfl⟩
theorem y112 {L : Nat} {xs : Nat → Int32} {vh : vm_H} {n p n2 p2 t : Int} {g : Int64} {u w : Nat → Int32} (h : lI L xs vh n p n2 p2 t g u w) {i1 : Int} (hi_1 : -2147483648 ≤ i1 ∧ i1 < 2147483648) {i2 : Int} (hi_2 : -2147483648 ≤ i2 ∧ i2 < 2147483648) : vm_Rp 4 90 112 [.ref 238, .int (vz i1), .int (vz i2)] vh (fun r v1 => (∃ n1 p1 t1 : Int, (n1 = n2 ∧ p1 = p2) ∧ lI L xs v1 n p n1 p1 t1 g u w) ∧ ∃ q : Int, (-2147483648 ≤ q ∧ q < 2147483648) ∧ r = some (.int (vz q))) := by
  obtain ⟨θ, sc, ai, al, az, fo, ⟨⟨rfl, rfl⟩, ⟨rfl, rfl⟩, ⟨rfl, rfl⟩, rfl, rfl⟩, hT, hM, hK, hI, hR, hS, hO⟩ := h
  refine (c112 hM hK hI hi_1 hi_2 hR).imp fun r v1 hq => ?_
  obtain ⟨⟨sc1, ai1, al1, az1, hM1, hK1, hI1, hF, hE⟩, q, hq, rfl⟩ := hq
  have h9 := lI_y hT hM1 hK1 hI1 hE hS hO
  rw [hF.2.2.2.2 241 rfl] at h9
  exact ⟨⟨_, _, _, ⟨hF.1 1 rfl, hF.1 4 rfl⟩, h9⟩, q, hq, rfl⟩
theorem y113 {L : Nat} {xs : Nat → Int32} {vh : vm_H} {n p n2 p2 t : Int} {g : Int64} {u w : Nat → Int32} (h : lI L xs vh n p n2 p2 t g u w) {i1 : Int} (hi_1 : -2147483648 ≤ i1 ∧ i1 < 2147483648) : vm_Rp 0 0 113 [.ref 238, .int (vz i1)] vh (fun r v1 => (∃ n1 p1 t1 : Int, (n1 = n2 ∧ p1 = p2) ∧ lI L xs v1 n p n1 p1 t1 g u w) ∧ ∃ q : Int, (-2147483648 ≤ q ∧ q < 2147483648) ∧ r = some (.int (vz q))) := by
  obtain ⟨θ, sc, ai, al, az, fo, ⟨⟨rfl, rfl⟩, ⟨rfl, rfl⟩, ⟨rfl, rfl⟩, rfl, rfl⟩, hT, hM, hK, hI, hR, hS, hO⟩ := h
  refine (c113 hM hK hI hi_1 hR).imp fun r v1 hq => ?_
  obtain ⟨⟨sc1, ai1, al1, az1, hM1, hK1, hI1, hF, hE⟩, q, hq, rfl⟩ := hq
  have h9 := lI_y hT hM1 hK1 hI1 hE hS hO
  rw [hF.2.2.2.2 241 rfl] at h9
  exact ⟨⟨_, _, _, ⟨hF.1 1 rfl, hF.1 4 rfl⟩, h9⟩, q, hq, rfl⟩
theorem y115 {L : Nat} {xs : Nat → Int32} {vh : vm_H} {n p n2 p2 t : Int} {g : Int64} {u w : Nat → Int32} (h : lI L xs vh n p n2 p2 t g u w) {i1 : Int} (hi_1 : -2147483648 ≤ i1 ∧ i1 < 2147483648) {i2 : Int} (hi_2 : -2147483648 ≤ i2 ∧ i2 < 2147483648) {i3 : Int} (hi_3 : -2147483648 ≤ i3 ∧ i3 < 2147483648) : vm_Rp 5 112 115 [.ref 238, .int (vz i1), .int (vz i2), .int (vz i3)] vh (fun r v1 => (∃ n1 p1 t1 : Int, (n1 = n2 ∧ p1 = p2) ∧ lI L xs v1 n p n1 p1 t1 g u w) ∧ ∃ q : Int64, r = some (.long q)) := by
  obtain ⟨θ, sc, ai, al, az, fo, ⟨⟨rfl, rfl⟩, ⟨rfl, rfl⟩, ⟨rfl, rfl⟩, rfl, rfl⟩, hT, hM, hK, hI, hR, hS, hO⟩ := h
  refine (c115 hM hK hI hi_1 hi_2 hi_3 hR).imp fun r v1 hq => ?_
  obtain ⟨⟨sc1, ai1, al1, az1, hM1, hK1, hI1, hF, hE⟩, q, rfl⟩ := hq
  have h9 := lI_y hT hM1 hK1 hI1 hE hS hO
  rw [hF.2.2.2.2 241 rfl] at h9
  exact ⟨⟨_, _, _, ⟨hF.1 1 rfl, hF.1 4 rfl⟩, h9⟩, q, rfl⟩
theorem y116 {L : Nat} {xs : Nat → Int32} {vh : vm_H} {n p n2 p2 t : Int} {g : Int64} {u w : Nat → Int32} (h : lI L xs vh n p n2 p2 t g u w) {i1 : Int} (hi_1 : -2147483648 ≤ i1 ∧ i1 < 2147483648) {i2 : Int} (hi_2 : -2147483648 ≤ i2 ∧ i2 < 2147483648) {i3 : Int} (hi_3 : -2147483648 ≤ i3 ∧ i3 < 2147483648) : vm_Rp 5 112 116 [.ref 238, .int (vz i1), .int (vz i2), .int (vz i3)] vh (fun r v1 => (∃ n1 p1 t1 : Int, (n1 = n2 ∧ p1 = p2) ∧ lI L xs v1 n p n1 p1 t1 g u w) ∧ ∃ q : Int, (-2147483648 ≤ q ∧ q < 2147483648) ∧ r = some (.int (vz q))) := by
  obtain ⟨θ, sc, ai, al, az, fo, ⟨⟨rfl, rfl⟩, ⟨rfl, rfl⟩, ⟨rfl, rfl⟩, rfl, rfl⟩, hT, hM, hK, hI, hR, hS, hO⟩ := h
  refine (c116 hM hK hI hi_1 hi_2 hi_3 hR).imp fun r v1 hq => ?_
  obtain ⟨⟨sc1, ai1, al1, az1, hM1, hK1, hI1, hF, hE⟩, q, hq, rfl⟩ := hq
  have h9 := lI_y hT hM1 hK1 hI1 hE hS hO
  rw [hF.2.2.2.2 241 rfl] at h9
  exact ⟨⟨_, _, _, ⟨hF.1 1 rfl, hF.1 4 rfl⟩, h9⟩, q, hq, rfl⟩
theorem y117 {L : Nat} {xs : Nat → Int32} {vh : vm_H} {n p n2 p2 t : Int} {g : Int64} {u w : Nat → Int32} (h : lI L xs vh n p n2 p2 t g u w) {i1 : Int} (hi_1 : -2147483648 ≤ i1 ∧ i1 < 2147483648) {l_2 : Int64} : vm_Rp 0 0 117 [.ref 238, .int (vz i1), .long l_2] vh (fun r v1 => (∃ n1 p1 t1 : Int, (n1 = n2 ∧ p1 = p2) ∧ lI L xs v1 n p n1 p1 t1 g u w) ∧ ∃ q : Int, ((0 ≤ q ∧ q ≤ 1) ∧ (q = 1 ↔ (0 ≤ i1 ∧ i1 < n2))) ∧ r = some (.int (vz q))) := by
  obtain ⟨θ, sc, ai, al, az, fo, ⟨⟨rfl, rfl⟩, ⟨rfl, rfl⟩, ⟨rfl, rfl⟩, rfl, rfl⟩, hT, hM, hK, hI, hR, hS, hO⟩ := h
  refine (c117 hM hK hI hi_1 hR).imp fun r v1 hq => ?_
  obtain ⟨⟨sc1, ai1, al1, az1, hM1, hK1, hI1, hF, hE⟩, q, hq, rfl⟩ := hq
  have h9 := lI_y hT hM1 hK1 hI1 hE hS hO
  rw [hF.2.2.2.2 241 rfl] at h9
  exact ⟨⟨_, _, _, ⟨hF.1 1 rfl, hF.1 4 rfl⟩, h9⟩, q, hq, rfl⟩
theorem y120 {L : Nat} {xs : Nat → Int32} {vh : vm_H} {n p n2 p2 t : Int} {g : Int64} {u w : Nat → Int32} (h : lI L xs vh n p n2 p2 t g u w) {i1 : Int} (hi_1 : -2147483648 ≤ i1 ∧ i1 < 2147483648) {i2 : Int} (hi_2 : -2147483648 ≤ i2 ∧ i2 < 2147483648) : vm_Rp 5 112 120 [.ref 238, .int (vz i1), .int (vz i2)] vh (fun r v1 => (∃ n1 p1 t1 : Int, (n1 = n2 ∧ p1 = p2) ∧ lI L xs v1 n p n1 p1 t1 g u w) ∧ ∃ q : Int64, r = some (.long q)) := by
  obtain ⟨θ, sc, ai, al, az, fo, ⟨⟨rfl, rfl⟩, ⟨rfl, rfl⟩, ⟨rfl, rfl⟩, rfl, rfl⟩, hT, hM, hK, hI, hR, hS, hO⟩ := h
  refine (c120 hM hK hI hi_1 hi_2 hR).imp fun r v1 hq => ?_
  obtain ⟨⟨sc1, ai1, al1, az1, hM1, hK1, hI1, hF, hE⟩, q, rfl⟩ := hq
  have h9 := lI_y hT hM1 hK1 hI1 hE hS hO
  rw [hF.2.2.2.2 241 rfl] at h9
  exact ⟨⟨_, _, _, ⟨hF.1 1 rfl, hF.1 4 rfl⟩, h9⟩, q, rfl⟩
theorem y121 {L : Nat} {xs : Nat → Int32} {vh : vm_H} {n p n2 p2 t : Int} {g : Int64} {u w : Nat → Int32} (h : lI L xs vh n p n2 p2 t g u w) {i1 : Int} (hi_1 : -2147483648 ≤ i1 ∧ i1 < 2147483648) : vm_Rp 5 112 121 [.ref 238, .int (vz i1)] vh (fun r v1 => (∃ n1 p1 t1 : Int, (n1 = n2 ∧ p1 = p2) ∧ lI L xs v1 n p n1 p1 t1 g u w) ∧ ∃ q : Int64, r = some (.long q)) := by
  obtain ⟨θ, sc, ai, al, az, fo, ⟨⟨rfl, rfl⟩, ⟨rfl, rfl⟩, ⟨rfl, rfl⟩, rfl, rfl⟩, hT, hM, hK, hI, hR, hS, hO⟩ := h
  refine (c121 hM hK hI hi_1 hR).imp fun r v1 hq => ?_
  obtain ⟨⟨sc1, ai1, al1, az1, hM1, hK1, hI1, hF, hE⟩, q, rfl⟩ := hq
  have h9 := lI_y hT hM1 hK1 hI1 hE hS hO
  rw [hF.2.2.2.2 241 rfl] at h9
  exact ⟨⟨_, _, _, ⟨hF.1 1 rfl, hF.1 4 rfl⟩, h9⟩, q, rfl⟩
