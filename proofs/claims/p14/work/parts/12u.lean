set_option maxRecDepth 100000 in
set_option maxHeartbeats 4000000 in
theorem c94 {sc : Nat → Int} {ai : Nat → Nat → Int} {al : Nat → Nat → Int64} {az : Nat → Nat → Int32} {v0 vh : vm_H} (hM : tm sc ai al az v0 vh) (hK : tmok ai) {i1 : Int} (hi_1 : 0 ≤ i1 ∧ i1 < 72) {i2 : Int} (hi_2 : 0 ≤ i2 ∧ i2 < 72) (hn : 0 ≤ sc 1 ∧ sc 1 ≤ 8) (hp : 0 ≤ mpI sc ai al az i1) (hq : 0 ≤ mpI sc ai al az i2) : vm_Rp 3 69 94 [.ref 238, .int (vz i1), .int (vz i2)] vh (fun r v1 => vh = v1 ∧ ∃ q : Int, ((0 ≤ q ∧ q ≤ 1)) ∧ r = some (.int (vz q))) := by
  refine w_in (m := 4) ?_
  show vm_Wp _ _ _ 0 [some (.ref 238), some (.int (vz i1)), some (.int (vz i2)), none, none, none, none] [] _ _
  refine w_ldA e94_0 (fun _ => rfl) rfl ?_
  refine w_ldI e94_1 (fun _ => rfl) rfl ?_
  have e1 := tm_o hM
  refine w_cv e94_2 (by decide) rfl e1 rfl (Nat.le_of_ble_eq_true rfl) (Nat.le_of_ble_eq_true rfl) (Nat.le_of_ble_eq_true rfl) (by decide) (by decide) (c86 hM hK (by omega) hn) (fun o2 v3 hq4 => ?_)
  obtain ⟨rfl, rfl⟩ := hq4
  have hp5 := mpI_bd sc ai al az i1 hn
  show vm_Wp _ _ _ 5 _ [.int (vz (mpI sc ai al az i1))] _ _
  refine w_stI (j := 3) (A1 := [some (.ref 238), some (.int (vz i1)), some (.int (vz i2)), some (.int (vz (mpI sc ai al az i1))), none, none, none]) e94_5 (fun _ => rfl) (by decide) rfl ?_
  refine w_ldA e94_6 (fun _ => rfl) rfl ?_
  refine w_ldI e94_7 (fun _ => rfl) rfl ?_
  refine w_cv e94_8 (by decide) rfl e1 rfl (Nat.le_of_ble_eq_true rfl) (Nat.le_of_ble_eq_true rfl) (Nat.le_of_ble_eq_true rfl) (by decide) (by decide) (c86 hM hK (by omega) hn) (fun o6 v7 hq8 => ?_)
  obtain ⟨rfl, rfl⟩ := hq8
  have hp9 := mpI_bd sc ai al az i2 hn
  show vm_Wp _ _ _ 11 _ [.int (vz (mpI sc ai al az i2))] _ _
  refine w_stI (j := 4) (A1 := [some (.ref 238), some (.int (vz i1)), some (.int (vz i2)), some (.int (vz (mpI sc ai al az i1))), some (.int (vz (mpI sc ai al az i2))), none, none]) e94_11 (fun _ => rfl) (by decide) rfl ?_
  refine w_ldI e94_13 (fun _ => rfl) rfl ?_
  refine w_ldI e94_14 (fun _ => rfl) rfl ?_
  refine w_ic e94_16 (by omega) (by omega) (fun (h10 : mpI sc ai al az i1 = mpI sc ai al az i2) => ?_) (fun (h10 : mpI sc ai al az i1 ≠ mpI sc ai al az i2) => ?_)
  ·
    refine w_ldA e94_31 (fun _ => rfl) rfl ?_
    refine w_ldI e94_32 (fun _ => rfl) rfl ?_
    refine w_ldA e94_33 (fun _ => rfl) rfl ?_
    refine w_get e94_34 e1 rfl ?_
    refine w_ldI e94_37 (fun _ => rfl) rfl ?_
    have e11 := tm_i hM (a := 240) (n := 8) rfl
    refine w_ald e94_38 e11 (by omega) (by omega) (by decide) ?_
    show vm_Wp _ _ _ 39 _ [.int (vz (ai 240 (mpI sc ai al az i1).toNat)), .int (vz i1), .ref 238] _ _
    have hk12 := hK.2 (mpI sc ai al az i1).toNat
    refine w_cv e94_39 (by decide) rfl e1 rfl (Nat.le_of_ble_eq_true rfl) (Nat.le_of_ble_eq_true rfl) (Nat.le_of_ble_eq_true rfl) (by decide) (by decide) (c85 hM hK (by omega) (tm_r hM 240 (mpI sc ai al az i1).toNat)) (fun o13 v14 hq15 => ?_)
    obtain ⟨rfl, rfl⟩ := hq15
    have hp16 := dgf_bd (al 244) (60 * i1).toNat (ai 240 (mpI sc ai al az i1).toNat) (ai 242 i1.toNat).toNat
    refine w_stI (j := 5) (A1 := [some (.ref 238), some (.int (vz i1)), some (.int (vz i2)), some (.int (vz (mpI sc ai al az i1))), some (.int (vz (mpI sc ai al az i2))), some (.int (vz (dgf (al 244) (60 * i1).toNat (ai 240 (mpI sc ai al az i1).toNat) (ai 242 i1.toNat).toNat))), none]) e94_42 (fun _ => rfl) (by decide) rfl ?_
    refine w_ldA e94_44 (fun _ => rfl) rfl ?_
    refine w_ldI e94_45 (fun _ => rfl) rfl ?_
    refine w_ldA e94_46 (fun _ => rfl) rfl ?_
    refine w_get e94_47 e1 rfl ?_
    refine w_ldI e94_50 (fun _ => rfl) rfl ?_
    refine w_ald e94_52 e11 (by omega) (by omega) (by decide) ?_
    show vm_Wp _ _ _ 53 _ [.int (vz (ai 240 (mpI sc ai al az i2).toNat)), .int (vz i2), .ref 238] _ _
    have hk17 := hK.2 (mpI sc ai al az i2).toNat
    refine w_cv e94_53 (by decide) rfl e1 rfl (Nat.le_of_ble_eq_true rfl) (Nat.le_of_ble_eq_true rfl) (Nat.le_of_ble_eq_true rfl) (by decide) (by decide) (c85 hM hK (by omega) (tm_r hM 240 (mpI sc ai al az i2).toNat)) (fun o18 v19 hq20 => ?_)
    obtain ⟨rfl, rfl⟩ := hq20
    have hp21 := dgf_bd (al 244) (60 * i2).toNat (ai 240 (mpI sc ai al az i2).toNat) (ai 242 i2.toNat).toNat
    refine w_stI (j := 6) (A1 := [some (.ref 238), some (.int (vz i1)), some (.int (vz i2)), some (.int (vz (mpI sc ai al az i1))), some (.int (vz (mpI sc ai al az i2))), some (.int (vz (dgf (al 244) (60 * i1).toNat (ai 240 (mpI sc ai al az i1).toNat) (ai 242 i1.toNat).toNat))), some (.int (vz (dgf (al 244) (60 * i2).toNat (ai 240 (mpI sc ai al az i2).toNat) (ai 242 i2.toNat).toNat)))]) e94_56 (fun _ => rfl) (by decide) rfl ?_
    refine w_ldI e94_58 (fun _ => rfl) rfl ?_
    refine w_ldI e94_60 (fun _ => rfl) rfl ?_
    refine w_ic e94_62 (by omega) (by omega) (fun (h22 : dgf (al 244) (60 * i1).toNat (ai 240 (mpI sc ai al az i1).toNat) (ai 242 i1.toNat).toNat = dgf (al 244) (60 * i2).toNat (ai 240 (mpI sc ai al az i2).toNat) (ai 242 i2.toNat).toNat) => ?_) (fun (h22 : dgf (al 244) (60 * i1).toNat (ai 240 (mpI sc ai al az i1).toNat) (ai 242 i1.toNat).toNat ≠ dgf (al 244) (60 * i2).toNat (ai 240 (mpI sc ai al az i2).toNat) (ai 242 i2.toNat).toNat) => ?_)
    ·
      refine w_ldA e94_80 (fun _ => rfl) rfl ?_
      refine w_get e94_81 e1 rfl ?_
      refine w_ldI e94_84 (fun _ => rfl) rfl ?_
      have e23 := tm_i hM (a := 242) (n := 72) rfl
      refine w_ald e94_85 e23 (by omega) (by omega) (by decide) ?_
      show vm_Wp _ _ _ 86 _ [.int (vz (ai 242 (i1).toNat))] _ _
      have hk24 := hK.1 (i1).toNat
      refine w_ldA e94_86 (fun _ => rfl) rfl ?_
      refine w_get e94_87 e1 rfl ?_
      refine w_ldI e94_90 (fun _ => rfl) rfl ?_
      refine w_ald e94_91 e23 (by omega) (by omega) (by decide) ?_
      show vm_Wp _ _ _ 92 _ [.int (vz (ai 242 (i2).toNat)), .int (vz (ai 242 (i1).toNat))] _ _
      have hk25 := hK.1 (i2).toNat
      refine w_ic e94_92 (tm_r hM 242 (i1).toNat) (tm_r hM 242 (i2).toNat) (fun (h26 : ai 242 (i2).toNat ≤ ai 242 (i1).toNat) => ?_) (fun (h26 : ai 242 (i1).toNat < ai 242 (i2).toNat) => ?_)
      ·
        refine w_kI e94_99 ?_
        exact w_rz e94_100 rfl (by omega) ⟨rfl, 0, (by omega), rfl⟩
      ·
        refine w_kI e94_95 ?_
        refine w_x e94_96 (fun _ => rfl) ?_
        exact w_rz e94_100 rfl (by omega) ⟨rfl, 1, (by omega), rfl⟩
    ·
      refine w_ldI e94_65 (fun _ => rfl) rfl ?_
      refine w_ldI e94_67 (fun _ => rfl) rfl ?_
      refine w_ic e94_69 (by omega) (by omega) (fun (h27 : dgf (al 244) (60 * i2).toNat (ai 240 (mpI sc ai al az i2).toNat) (ai 242 i2.toNat).toNat ≤ dgf (al 244) (60 * i1).toNat (ai 240 (mpI sc ai al az i1).toNat) (ai 242 i1.toNat).toNat) => ?_) (fun (h27 : dgf (al 244) (60 * i1).toNat (ai 240 (mpI sc ai al az i1).toNat) (ai 242 i1.toNat).toNat < dgf (al 244) (60 * i2).toNat (ai 240 (mpI sc ai al az i2).toNat) (ai 242 i2.toNat).toNat) => ?_)
      ·
        refine w_kI e94_76 ?_
        refine w_x e94_77 (fun _ => rfl) ?_
        exact w_rz e94_100 rfl (by omega) ⟨rfl, 0, (by omega), rfl⟩
      ·
        refine w_kI e94_72 ?_
        refine w_x e94_73 (fun _ => rfl) ?_
        exact w_rz e94_100 rfl (by omega) ⟨rfl, 1, (by omega), rfl⟩
  ·
    refine w_ldI e94_19 (fun _ => rfl) rfl ?_
    refine w_ldI e94_20 (fun _ => rfl) rfl ?_
    refine w_ic e94_22 (by omega) (by omega) (fun (h28 : mpI sc ai al az i2 ≤ mpI sc ai al az i1) => ?_) (fun (h28 : mpI sc ai al az i1 < mpI sc ai al az i2) => ?_)
    ·
      refine w_kI e94_29 ?_
      exact w_rz e94_30 rfl (by omega) ⟨rfl, 0, (by omega), rfl⟩
    ·
      refine w_kI e94_25 ?_
      refine w_x e94_26 (fun _ => rfl) ?_
      exact w_rz e94_30 rfl (by omega) ⟨rfl, 1, (by omega), rfl⟩
set_option maxRecDepth 100000 in
set_option maxHeartbeats 4000000 in
theorem c95_L {sc : Nat → Int} {ai : Nat → Nat → Int} {al : Nat → Nat → Int64} {az : Nat → Nat → Int32} {v0 vh : vm_H} (hM : tm sc ai al az v0 vh) (hK : tmok ai) {i1 : Int} (hi_1 : 0 ≤ i1 ∧ i1 < 72) (hn : 0 ≤ sc 1 ∧ sc 1 ≤ 8) (hb : 0 ≤ sc 40 ∧ sc 40 ≤ 8) {b : Int} (hB : bs sc ai al az (sc 40) b) (hb6 : b ≤ 67) : ∀ N : Nat, (∀ (x2 : Int) (x3 : Int), (0 ≤ x2 ∧ x2 ≤ 1) → (0 ≤ x3 ∧ x3 ≤ 8) → (x2 = 1 → (sc 40 = 0 ∨ mpI sc ai al az (ai 261 (sc 40 - 1).toNat) < mpI sc ai al az i1)) → ((8 - x3 : Int).toNat < N) → vm_Wp 3 69 95 38 [some (.ref 238), some (.int (vz i1)), some (.int (vz x2)), some (.int (vz x3)), none] [] vh (vq_P 95 (fun r v1 => vh = v1 ∧ ∃ q : Int, ((0 ≤ q ∧ q ≤ 1) ∧ (q = 1 → (sc 40 = 0 ∨ mpI sc ai al az (ai 261 (sc 40 - 1).toNat) < mpI sc ai al az i1))) ∧ r = some (.int (vz q))))) := by
  intro N
  induction N with
  | zero => exact (by intros; omega)
  | succ N ih =>
    ·
      intro x2 x3 hx2 hx3 hi0 hN
      refine w_ldI e95_38 (fun _ => rfl) rfl ?_
      refine w_ldA e95_39 (fun _ => rfl) rfl ?_
      have e14 := tm_o hM
      refine w_get e95_40 e14 rfl ?_
      refine w_ic e95_43 (by omega) (tm_s hM 40) (fun (h15 : sc 40 ≤ x3) => ?_) (fun (h15 : x3 < sc 40) => ?_)
      ·
        refine w_ldI e95_101 (fun _ => rfl) rfl ?_
        exact w_rz e95_102 rfl (by omega) ⟨rfl, x2, (by omega), rfl⟩
      ·
        refine w_ldI e95_46 (fun _ => rfl) rfl ?_
        refine w_if e95_47 (by omega) (fun (h16 : x2 = 0) => ?_) (fun (h16 : x2 ≠ 0) => ?_)
        ·
          refine w_ldI e95_101 (fun _ => rfl) rfl ?_
          exact w_rz e95_102 rfl (by omega) ⟨rfl, x2, (by omega), rfl⟩
        ·
          refine w_ldA e95_50 (fun _ => rfl) rfl ?_
          refine w_get e95_51 e14 rfl ?_
          refine w_ldA e95_54 (fun _ => rfl) rfl ?_
          refine w_ldA e95_55 (fun _ => rfl) rfl ?_
          refine w_get e95_56 e14 rfl ?_
          refine w_ldI e95_59 (fun _ => rfl) rfl ?_
          have e17 := tm_i hM (a := 261) (n := 8) rfl
          refine w_ald e95_60 e17 (by omega) (by omega) (by decide) ?_
          show vm_Wp _ _ _ 61 _ [.int (vz (ai 261 (x3).toNat)), .ref 238, .ref 240] _ _
          have hb18 := hB (x3).toNat (by omega)
          refine w_cv e95_61 (by decide) rfl e14 rfl (Nat.le_of_ble_eq_true rfl) (Nat.le_of_ble_eq_true rfl) (Nat.le_of_ble_eq_true rfl) (by decide) (by decide) (c86 hM hK (by omega) hn) (fun o19 v20 hq21 => ?_)
          obtain ⟨rfl, rfl⟩ := hq21
          have hp22 := mpI_bd sc ai al az (ai 261 (x3).toNat) hn
          show vm_Wp _ _ _ 64 _ [.int (vz (mpI sc ai al az (ai 261 (x3).toNat))), .ref 240] _ _
          have e23 := tm_i hM (a := 240) (n := 8) rfl
          refine w_ald e95_64 e23 (by omega) (by omega) (by decide) ?_
          show vm_Wp _ _ _ 65 _ [.int (vz (ai 240 (mpI sc ai al az (ai 261 (x3).toNat)).toNat))] _ _
          have hk24 := hK.2 (mpI sc ai al az (ai 261 (x3).toNat)).toNat
          refine w_stI (j := 4) (A1 := [some (.ref 238), some (.int (vz i1)), some (.int (vz x2)), some (.int (vz x3)), some (.int (vz (ai 240 (mpI sc ai al az (ai 261 (x3).toNat)).toNat)))]) e95_65 (fun _ => rfl) (by decide) rfl ?_
          refine w_ldA e95_67 (fun _ => rfl) rfl ?_
          refine w_ldI e95_68 (fun _ => rfl) rfl ?_
          refine w_ldI e95_69 (fun _ => rfl) rfl ?_
          refine w_cv e95_71 (by decide) rfl e14 rfl (Nat.le_of_ble_eq_true rfl) (Nat.le_of_ble_eq_true rfl) (Nat.le_of_ble_eq_true rfl) (by decide) (by decide) (c85 hM hK (by omega) (tm_r hM 240 (mpI sc ai al az (ai 261 (x3).toNat)).toNat)) (fun o25 v26 hq27 => ?_)
          obtain ⟨rfl, rfl⟩ := hq27
          have hp28 := dgf_bd (al 244) (60 * i1).toNat (ai 240 (mpI sc ai al az (ai 261 (x3).toNat)).toNat) (ai 242 i1.toNat).toNat
          refine w_ldA e95_74 (fun _ => rfl) rfl ?_
          refine w_ldA e95_75 (fun _ => rfl) rfl ?_
          refine w_get e95_76 e14 rfl ?_
          refine w_ldI e95_79 (fun _ => rfl) rfl ?_
          refine w_ald e95_80 e17 (by omega) (by omega) (by decide) ?_
          show vm_Wp _ _ _ 81 _ [.int (vz (ai 261 (x3).toNat)), .ref 238, .int (vz (dgf (al 244) (60 * i1).toNat (ai 240 (mpI sc ai al az (ai 261 (x3).toNat)).toNat) (ai 242 i1.toNat).toNat))] _ _
          have hb29 := hB (x3).toNat (by omega)
          refine w_ldI e95_81 (fun _ => rfl) rfl ?_
          refine w_cv e95_83 (by decide) rfl e14 rfl (Nat.le_of_ble_eq_true rfl) (Nat.le_of_ble_eq_true rfl) (Nat.le_of_ble_eq_true rfl) (by decide) (by decide) (c85 hM hK (by omega) (tm_r hM 240 (mpI sc ai al az (ai 261 (x3).toNat)).toNat)) (fun o30 v31 hq32 => ?_)
          obtain ⟨rfl, rfl⟩ := hq32
          have hp33 := dgf_bd (al 244) (60 * (ai 261 (x3).toNat)).toNat (ai 240 (mpI sc ai al az (ai 261 (x3).toNat)).toNat) (ai 242 (ai 261 (x3).toNat).toNat).toNat
          refine w_ic e95_86 (by omega) (by omega) (fun (h34 : dgf (al 244) (60 * (ai 261 (x3).toNat)).toNat (ai 240 (mpI sc ai al az (ai 261 (x3).toNat)).toNat) (ai 242 (ai 261 (x3).toNat).toNat).toNat ≤ dgf (al 244) (60 * i1).toNat (ai 240 (mpI sc ai al az (ai 261 (x3).toNat)).toNat) (ai 242 i1.toNat).toNat) => ?_) (fun (h34 : dgf (al 244) (60 * i1).toNat (ai 240 (mpI sc ai al az (ai 261 (x3).toNat)).toNat) (ai 242 i1.toNat).toNat < dgf (al 244) (60 * (ai 261 (x3).toNat)).toNat (ai 240 (mpI sc ai al az (ai 261 (x3).toNat)).toNat) (ai 242 (ai 261 (x3).toNat).toNat).toNat) => ?_)
          ·
            refine w_kI e95_93 ?_
            refine w_stI (j := 2) (A1 := [some (.ref 238), some (.int (vz i1)), some (.int (vz 0)), some (.int (vz x3)), some (.int (vz (ai 240 (mpI sc ai al az (ai 261 (x3).toNat)).toNat)))]) e95_94 (fun _ => rfl) (by decide) rfl ?_
            refine w_iinc (A1 := [some (.ref 238), some (.int (vz i1)), some (.int (vz 0)), some (.int (vz (x3 + 1))), some (.int (vz (ai 240 (mpI sc ai al az (ai 261 (x3).toNat)).toNat)))]) e95_95 rfl (by decide) rfl ?_
            refine w_x e95_98 (fun _ => rfl) ?_
            exact w_sub (A1 := [some (.ref 238), some (.int (vz i1)), some (.int (vz 0)), some (.int (vz (x3 + 1))), none]) (And.intro rfl (And.intro rfl (And.intro rfl (And.intro rfl trivial)))) ((ih) 0 (x3 + 1) (by omega) (by omega) (by omega) (by omega))
          ·
            refine w_kI e95_89 ?_
            refine w_x e95_90 (fun _ => rfl) ?_
            refine w_stI (j := 2) (A1 := [some (.ref 238), some (.int (vz i1)), some (.int (vz 1)), some (.int (vz x3)), some (.int (vz (ai 240 (mpI sc ai al az (ai 261 (x3).toNat)).toNat)))]) e95_94 (fun _ => rfl) (by decide) rfl ?_
            refine w_iinc (A1 := [some (.ref 238), some (.int (vz i1)), some (.int (vz 1)), some (.int (vz (x3 + 1))), some (.int (vz (ai 240 (mpI sc ai al az (ai 261 (x3).toNat)).toNat)))]) e95_95 rfl (by decide) rfl ?_
            refine w_x e95_98 (fun _ => rfl) ?_
            exact w_sub (A1 := [some (.ref 238), some (.int (vz i1)), some (.int (vz 1)), some (.int (vz (x3 + 1))), none]) (And.intro rfl (And.intro rfl (And.intro rfl (And.intro rfl trivial)))) ((ih) 1 (x3 + 1) (by omega) (by omega) (by omega) (by omega))
set_option maxRecDepth 100000 in
set_option maxHeartbeats 4000000 in
theorem c95 {sc : Nat → Int} {ai : Nat → Nat → Int} {al : Nat → Nat → Int64} {az : Nat → Nat → Int32} {v0 vh : vm_H} (hM : tm sc ai al az v0 vh) (hK : tmok ai) {i1 : Int} (hi_1 : 0 ≤ i1 ∧ i1 < 72) (hn : 0 ≤ sc 1 ∧ sc 1 ≤ 8) (hb : 0 ≤ sc 40 ∧ sc 40 ≤ 8) {b : Int} (hB : bs sc ai al az (sc 40) b) (hb6 : b ≤ 67) : vm_Rp 3 69 95 [.ref 238, .int (vz i1)] vh (fun r v1 => vh = v1 ∧ ∃ q : Int, ((0 ≤ q ∧ q ≤ 1) ∧ (q = 1 → (sc 40 = 0 ∨ mpI sc ai al az (ai 261 (sc 40 - 1).toNat) < mpI sc ai al az i1))) ∧ r = some (.int (vz q))) := by
  refine w_in (m := 3) ?_
  show vm_Wp _ _ _ 0 [some (.ref 238), some (.int (vz i1)), none, none, none] [] _ _
  refine w_ldA e95_0 (fun _ => rfl) rfl ?_
  have e1 := tm_o hM
  refine w_get e95_1 e1 rfl ?_
  refine w_if e95_4 (tm_s hM 40) (fun (h2 : sc 40 = 0) => ?_) (fun (h2 : sc 40 ≠ 0) => ?_)
  ·
    refine w_kI e95_30 ?_
    refine w_x e95_31 (fun _ => rfl) ?_
    refine w_stI (j := 2) (A1 := [some (.ref 238), some (.int (vz i1)), some (.int (vz 1)), none, none]) e95_35 (fun _ => rfl) (by decide) rfl ?_
    refine w_kI e95_36 ?_
    refine w_stI (j := 3) (A1 := [some (.ref 238), some (.int (vz i1)), some (.int (vz 1)), some (.int (vz 0)), none]) e95_37 (fun _ => rfl) (by decide) rfl ?_
    exact w_sub (A1 := [some (.ref 238), some (.int (vz i1)), some (.int (vz 1)), some (.int (vz 0)), none]) (And.intro rfl (And.intro rfl (And.intro rfl (And.intro rfl trivial)))) (((c95_L (sc := sc) (ai := ai) (al := al) (az := az) (v0 := v0) (vh := vh) (i1 := i1) (b := b) hM hK hi_1 hn hb hB hb6 _)) 1 0 (by omega) (by omega) (by omega) (Nat.lt_succ_self _))
  ·
    refine w_ldA e95_7 (fun _ => rfl) rfl ?_
    refine w_ldI e95_8 (fun _ => rfl) rfl ?_
    refine w_cv e95_9 (by decide) rfl e1 rfl (Nat.le_of_ble_eq_true rfl) (Nat.le_of_ble_eq_true rfl) (Nat.le_of_ble_eq_true rfl) (by decide) (by decide) (c86 hM hK (by omega) hn) (fun o3 v4 hq5 => ?_)
    obtain ⟨rfl, rfl⟩ := hq5
    have hp6 := mpI_bd sc ai al az i1 hn
    show vm_Wp _ _ _ 12 _ [.int (vz (mpI sc ai al az i1))] _ _
    refine w_ldA e95_12 (fun _ => rfl) rfl ?_
    refine w_ldA e95_13 (fun _ => rfl) rfl ?_
    refine w_get e95_14 e1 rfl ?_
    refine w_ldA e95_17 (fun _ => rfl) rfl ?_
    refine w_get e95_18 e1 rfl ?_
    refine w_kI e95_21 ?_
    refine w_isub e95_22 ?_
    have e7 := tm_i hM (a := 261) (n := 8) rfl
    refine w_ald e95_23 e7 (by omega) (by omega) (by decide) ?_
    show vm_Wp _ _ _ 24 _ [.int (vz (ai 261 ((sc 40) - 1).toNat)), .ref 238, .int (vz (mpI sc ai al az i1))] _ _
    have hb8 := hB ((sc 40) - 1).toNat (by omega)
    refine w_cv e95_24 (by decide) rfl e1 rfl (Nat.le_of_ble_eq_true rfl) (Nat.le_of_ble_eq_true rfl) (Nat.le_of_ble_eq_true rfl) (by decide) (by decide) (c86 hM hK (by omega) hn) (fun o9 v10 hq11 => ?_)
    obtain ⟨rfl, rfl⟩ := hq11
    have hp12 := mpI_bd sc ai al az (ai 261 ((sc 40) - 1).toNat) hn
    show vm_Wp _ _ _ 27 _ [.int (vz (mpI sc ai al az (ai 261 ((sc 40) - 1).toNat))), .int (vz (mpI sc ai al az i1))] _ _
    refine w_ic e95_27 (by omega) (by omega) (fun (h13 : mpI sc ai al az i1 ≤ mpI sc ai al az (ai 261 ((sc 40) - 1).toNat)) => ?_) (fun (h13 : mpI sc ai al az (ai 261 ((sc 40) - 1).toNat) < mpI sc ai al az i1) => ?_)
    ·
      refine w_kI e95_34 ?_
      refine w_stI (j := 2) (A1 := [some (.ref 238), some (.int (vz i1)), some (.int (vz 0)), none, none]) e95_35 (fun _ => rfl) (by decide) rfl ?_
      refine w_kI e95_36 ?_
      refine w_stI (j := 3) (A1 := [some (.ref 238), some (.int (vz i1)), some (.int (vz 0)), some (.int (vz 0)), none]) e95_37 (fun _ => rfl) (by decide) rfl ?_
      exact w_sub (A1 := [some (.ref 238), some (.int (vz i1)), some (.int (vz 0)), some (.int (vz 0)), none]) (And.intro rfl (And.intro rfl (And.intro rfl (And.intro rfl trivial)))) (((c95_L (sc := sc) (ai := ai) (al := al) (az := az) (v0 := v0) (vh := vh) (i1 := i1) (b := b) hM hK hi_1 hn hb hB hb6 _)) 0 0 (by omega) (by omega) (by omega) (Nat.lt_succ_self _))
    ·
      refine w_kI e95_30 ?_
      refine w_x e95_31 (fun _ => rfl) ?_
      refine w_stI (j := 2) (A1 := [some (.ref 238), some (.int (vz i1)), some (.int (vz 1)), none, none]) e95_35 (fun _ => rfl) (by decide) rfl ?_
      refine w_kI e95_36 ?_
      refine w_stI (j := 3) (A1 := [some (.ref 238), some (.int (vz i1)), some (.int (vz 1)), some (.int (vz 0)), none]) e95_37 (fun _ => rfl) (by decide) rfl ?_
      exact w_sub (A1 := [some (.ref 238), some (.int (vz i1)), some (.int (vz 1)), some (.int (vz 0)), none]) (And.intro rfl (And.intro rfl (And.intro rfl (And.intro rfl trivial)))) (((c95_L (sc := sc) (ai := ai) (al := al) (az := az) (v0 := v0) (vh := vh) (i1 := i1) (b := b) hM hK hi_1 hn hb hB hb6 _)) 1 0 (by omega) (by omega) (by omega) (Nat.lt_succ_self _))
set_option maxRecDepth 100000 in
set_option maxHeartbeats 4000000 in
theorem c97_L {sc : Nat → Int} {ai : Nat → Nat → Int} {al : Nat → Nat → Int64} {az : Nat → Nat → Int32} {v0 vh : vm_H} (hM : tm sc ai al az v0 vh) (hK : tmok ai) {i1 : Int} (hi_1 : -2147483648 ≤ i1 ∧ i1 < 2147483648) (hb : 0 ≤ sc 40 ∧ sc 40 ≤ 8) : ∀ N : Nat, (∀ (x2 : Int) (x3 : Int), (0 ≤ x2 ∧ x2 ≤ 1) → (0 ≤ x3 ∧ x3 ≤ 8) → ((8 - x3 : Int).toNat < N) → vm_Wp 0 0 97 4 [some (.ref 238), some (.int (vz i1)), some (.int (vz x2)), some (.int (vz x3))] [] vh (vq_P 97 (fun r v1 => vh = v1 ∧ ∃ q : Int, ((0 ≤ q ∧ q ≤ 1)) ∧ r = some (.int (vz q))))) := by
  intro N
  induction N with
  | zero => exact (by intros; omega)
  | succ N ih =>
    ·
      intro x2 x3 hx2 hx3 hN
      refine w_ldI e97_4 (fun _ => rfl) rfl ?_
      refine w_ldA e97_5 (fun _ => rfl) rfl ?_
      have e1 := tm_o hM
      refine w_get e97_6 e1 rfl ?_
      refine w_ic e97_9 (by omega) (tm_s hM 40) (fun (h2 : sc 40 ≤ x3) => ?_) (fun (h2 : x3 < sc 40) => ?_)
      ·
        refine w_ldI e97_36 (fun _ => rfl) rfl ?_
        exact w_rz e97_37 rfl (by omega) ⟨rfl, x2, (by omega), rfl⟩
      ·
        refine w_ldI e97_12 (fun _ => rfl) rfl ?_
        refine w_ldA e97_13 (fun _ => rfl) rfl ?_
        refine w_get e97_14 e1 rfl ?_
        refine w_ldI e97_17 (fun _ => rfl) rfl ?_
        have e3 := tm_i hM (a := 261) (n := 8) rfl
        refine w_ald e97_18 e3 (by omega) (by omega) (by decide) ?_
        show vm_Wp _ _ _ 19 _ [.int (vz (ai 261 (x3).toNat)), .int (vz x2)] _ _
        refine w_ldI e97_19 (fun _ => rfl) rfl ?_
        refine w_ic e97_20 (tm_r hM 261 (x3).toNat) hi_1 (fun (h4 : ai 261 (x3).toNat ≠ i1) => ?_) (fun (h4 : ai 261 (x3).toNat = i1) => ?_)
        ·
          refine w_kI e97_27 ?_
          refine w_ior01 e97_28 (by omega) (by omega) (fun q5 h6 => ?_)
          refine w_stI (j := 2) (A1 := [some (.ref 238), some (.int (vz i1)), some (.int (vz q5)), some (.int (vz x3))]) e97_29 (fun _ => rfl) (by decide) rfl ?_
          refine w_iinc (A1 := [some (.ref 238), some (.int (vz i1)), some (.int (vz q5)), some (.int (vz (x3 + 1)))]) e97_30 rfl (by decide) rfl ?_
          refine w_x e97_33 (fun _ => rfl) ?_
          exact w_sub (A1 := [some (.ref 238), some (.int (vz i1)), some (.int (vz q5)), some (.int (vz (x3 + 1)))]) (And.intro rfl (And.intro rfl (And.intro rfl (And.intro rfl trivial)))) ((ih) q5 (x3 + 1) (by omega) (by omega) (by omega))
        ·
          refine w_kI e97_23 ?_
          refine w_x e97_24 (fun _ => rfl) ?_
          refine w_ior01 e97_28 (by omega) (by omega) (fun q7 h8 => ?_)
          refine w_stI (j := 2) (A1 := [some (.ref 238), some (.int (vz i1)), some (.int (vz q7)), some (.int (vz x3))]) e97_29 (fun _ => rfl) (by decide) rfl ?_
          refine w_iinc (A1 := [some (.ref 238), some (.int (vz i1)), some (.int (vz q7)), some (.int (vz (x3 + 1)))]) e97_30 rfl (by decide) rfl ?_
          refine w_x e97_33 (fun _ => rfl) ?_
          exact w_sub (A1 := [some (.ref 238), some (.int (vz i1)), some (.int (vz q7)), some (.int (vz (x3 + 1)))]) (And.intro rfl (And.intro rfl (And.intro rfl (And.intro rfl trivial)))) ((ih) q7 (x3 + 1) (by omega) (by omega) (by omega))
set_option maxRecDepth 100000 in
set_option maxHeartbeats 4000000 in
theorem c97 {sc : Nat → Int} {ai : Nat → Nat → Int} {al : Nat → Nat → Int64} {az : Nat → Nat → Int32} {v0 vh : vm_H} (hM : tm sc ai al az v0 vh) (hK : tmok ai) {i1 : Int} (hi_1 : -2147483648 ≤ i1 ∧ i1 < 2147483648) (hb : 0 ≤ sc 40 ∧ sc 40 ≤ 8) : vm_Rp 0 0 97 [.ref 238, .int (vz i1)] vh (fun r v1 => vh = v1 ∧ ∃ q : Int, ((0 ≤ q ∧ q ≤ 1)) ∧ r = some (.int (vz q))) := by
  refine w_in (m := 2) ?_
  show vm_Wp _ _ _ 0 [some (.ref 238), some (.int (vz i1)), none, none] [] _ _
  refine w_kI e97_0 ?_
  refine w_stI (j := 2) (A1 := [some (.ref 238), some (.int (vz i1)), some (.int (vz 0)), none]) e97_1 (fun _ => rfl) (by decide) rfl ?_
  refine w_kI e97_2 ?_
  refine w_stI (j := 3) (A1 := [some (.ref 238), some (.int (vz i1)), some (.int (vz 0)), some (.int (vz 0))]) e97_3 (fun _ => rfl) (by decide) rfl ?_
  exact w_sub (A1 := [some (.ref 238), some (.int (vz i1)), some (.int (vz 0)), some (.int (vz 0))]) (And.intro rfl (And.intro rfl (And.intro rfl (And.intro rfl trivial)))) (((c97_L (sc := sc) (ai := ai) (al := al) (az := az) (v0 := v0) (vh := vh) (i1 := i1) hM hK hi_1 hb _)) 0 0 (by omega) (by omega) (Nat.lt_succ_self _))
set_option maxRecDepth 100000 in
set_option maxHeartbeats 4000000 in
theorem c98_L {sc : Nat → Int} {ai : Nat → Nat → Int} {al : Nat → Nat → Int64} {az : Nat → Nat → Int32} {v0 vh : vm_H} (hM : tm sc ai al az v0 vh) (hK : tmok ai) {i1 : Int} (hi_1 : 0 ≤ i1 ∧ i1 < 72) (hr : 0 ≤ sc 42 ∧ sc 42 ≤ 40) : ∀ N : Nat, (∀ (x2 : Int) (x3 : Int), (0 ≤ x2 ∧ x2 ≤ 1) → (0 ≤ x3 ∧ x3 ≤ 40) → ((40 - x3 : Int).toNat < N) → vm_Wp 1 24 98 4 [some (.ref 238), some (.int (vz i1)), some (.int (vz x2)), some (.int (vz x3))] [] vh (vq_P 98 (fun r v1 => vh = v1 ∧ ∃ q : Int, ((0 ≤ q ∧ q ≤ 1)) ∧ r = some (.int (vz q))))) := by
  intro N
  induction N with
  | zero => exact (by intros; omega)
  | succ N ih =>
    ·
      intro x2 x3 hx2 hx3 hN
      refine w_ldI e98_4 (fun _ => rfl) rfl ?_
      refine w_ldA e98_5 (fun _ => rfl) rfl ?_
      have e1 := tm_o hM
      refine w_get e98_6 e1 rfl ?_
      refine w_ic e98_9 (by omega) (tm_s hM 42) (fun (h2 : sc 42 ≤ x3) => ?_) (fun (h2 : x3 < sc 42) => ?_)
      ·
        refine w_ldI e98_32 (fun _ => rfl) rfl ?_
        exact w_rz e98_33 rfl (by omega) ⟨rfl, x2, (by omega), rfl⟩
      ·
        refine w_ldI e98_12 (fun _ => rfl) rfl ?_
        refine w_if e98_13 (by omega) (fun (h3 : x2 ≠ 0) => ?_) (fun (h3 : x2 = 0) => ?_)
        ·
          refine w_ldI e98_32 (fun _ => rfl) rfl ?_
          exact w_rz e98_33 rfl (by omega) ⟨rfl, x2, (by omega), rfl⟩
        ·
          refine w_ldA e98_16 (fun _ => rfl) rfl ?_
          refine w_kB e98_17 rfl ?_
          refine w_ldI e98_19 (fun _ => rfl) rfl ?_
          refine w_iadd e98_20 ?_
          refine w_ldI e98_21 (fun _ => rfl) rfl ?_
          refine w_cv e98_22 (by decide) rfl e1 rfl (Nat.le_of_ble_eq_true rfl) (Nat.le_of_ble_eq_true rfl) (Nat.le_of_ble_eq_true rfl) (by decide) (by decide) (c84 hM hK (by omega) (by omega)) (fun o4 v5 hq6 => ?_)
          obtain ⟨rfl, q7, h8, rfl⟩ := hq6
          refine w_stI (j := 2) (A1 := [some (.ref 238), some (.int (vz i1)), some (.int (vz q7)), some (.int (vz x3))]) e98_25 (fun _ => rfl) (by decide) rfl ?_
          refine w_iinc (A1 := [some (.ref 238), some (.int (vz i1)), some (.int (vz q7)), some (.int (vz (x3 + 1)))]) e98_26 rfl (by decide) rfl ?_
          refine w_x e98_29 (fun _ => rfl) ?_
          exact w_sub (A1 := [some (.ref 238), some (.int (vz i1)), some (.int (vz q7)), some (.int (vz (x3 + 1)))]) (And.intro rfl (And.intro rfl (And.intro rfl (And.intro rfl trivial)))) ((ih) q7 (x3 + 1) (by omega) (by omega) (by omega))
set_option maxRecDepth 100000 in
set_option maxHeartbeats 4000000 in
theorem c98 {sc : Nat → Int} {ai : Nat → Nat → Int} {al : Nat → Nat → Int64} {az : Nat → Nat → Int32} {v0 vh : vm_H} (hM : tm sc ai al az v0 vh) (hK : tmok ai) {i1 : Int} (hi_1 : 0 ≤ i1 ∧ i1 < 72) (hr : 0 ≤ sc 42 ∧ sc 42 ≤ 40) : vm_Rp 1 24 98 [.ref 238, .int (vz i1)] vh (fun r v1 => vh = v1 ∧ ∃ q : Int, ((0 ≤ q ∧ q ≤ 1)) ∧ r = some (.int (vz q))) := by
  refine w_in (m := 2) ?_
  show vm_Wp _ _ _ 0 [some (.ref 238), some (.int (vz i1)), none, none] [] _ _
  refine w_kI e98_0 ?_
  refine w_stI (j := 2) (A1 := [some (.ref 238), some (.int (vz i1)), some (.int (vz 0)), none]) e98_1 (fun _ => rfl) (by decide) rfl ?_
  refine w_kI e98_2 ?_
  refine w_stI (j := 3) (A1 := [some (.ref 238), some (.int (vz i1)), some (.int (vz 0)), some (.int (vz 0))]) e98_3 (fun _ => rfl) (by decide) rfl ?_
  exact w_sub (A1 := [some (.ref 238), some (.int (vz i1)), some (.int (vz 0)), some (.int (vz 0))]) (And.intro rfl (And.intro rfl (And.intro rfl (And.intro rfl trivial)))) (((c98_L (sc := sc) (ai := ai) (al := al) (az := az) (v0 := v0) (vh := vh) (i1 := i1) hM hK hi_1 hr _)) 0 0 (by omega) (by omega) (Nat.lt_succ_self _))
set_option maxRecDepth 100000 in
set_option maxHeartbeats 4000000 in
theorem c96_L {sc : Nat → Int} {ai : Nat → Nat → Int} {al : Nat → Nat → Int64} {az : Nat → Nat → Int32} {v0 : vm_H} (hK0 : tmok ai) (hI : gi sc ai al az) (hr : 0 ≤ sc 42 ∧ sc 42 ≤ 40) (hR : rws sc ai al az (sc 42)) : ∀ N : Nat, (∀ (vh : vm_H) (sc_ : Nat → Int) (ai_ : Nat → Nat → Int) (x1 : Int), (tm sc_ ai_ al az v0 vh) → (tmok ai_) → (gi sc_ ai_ al az) → (fr [40] [261] 1 0 sc ai al az sc_ ai_ al az) → (0 ≤ x1 ∧ x1 ≤ 1) → (bs sc_ ai_ al az (sc_ 40) (16 + sc 42)) → (rws sc_ ai_ al az (sc 42)) → ((0 ≤ sc_ 40 ∧ sc_ 40 ≤ 8) ∧ sc_ 42 = sc 42) → (((8 - sc_ 40) * 1000 + 100 * x1 : Int).toNat < N) → vm_Wp 4 95 96 7 [some (.ref 238), some (.int (vz x1)), none, none] [] vh (vq_P 96 (fun r v1 => (∃ (sc1 : Nat → Int) (ai1 : Nat → Nat → Int) (al1 : Nat → Nat → Int64) (az1 : Nat → Nat → Int32), tm sc1 ai1 al1 az1 v0 v1 ∧ tmok ai1 ∧ gi sc1 ai1 al1 az1 ∧ fr [40] [261] 1 0 sc ai al az sc1 ai1 al1 az1 ∧ ((0 ≤ sc1 40 ∧ sc1 40 ≤ 8) ∧ bs sc1 ai1 al1 az1 (sc1 40) (16 + sc 42))) ∧ r = none))) ∧ (∀ (vh : vm_H) (sc_ : Nat → Int) (ai_ : Nat → Nat → Int) (x1 : Int) (x2 : Int) (x3 : Int), (tm sc_ ai_ al az v0 vh) → (tmok ai_) → (gi sc_ ai_ al az) → (fr [40] [261] 1 0 sc ai al az sc_ ai_ al az) → (0 ≤ x1 ∧ x1 ≤ 1) → (-1 ≤ x2 ∧ x2 < 16 + sc 42) → (0 ≤ x3 ∧ x3 ≤ sc 42) → (bs sc_ ai_ al az (sc_ 40) (16 + sc 42)) → (rws sc_ ai_ al az (sc 42)) → ((0 ≤ sc_ 40 ∧ sc_ 40 ≤ 8) ∧ sc_ 42 = sc 42) → (x2 < 0 ∨ (16 ≤ x2 ∧ sc_ 40 ≤ mpI sc_ ai_ al az x2)) → (((8 - sc_ 40) * 1000 + 50 - x3 : Int).toNat < N) → vm_Wp 4 95 96 15 [some (.ref 238), some (.int (vz x1)), some (.int (vz x2)), some (.int (vz x3))] [] vh (vq_P 96 (fun r v1 => (∃ (sc1 : Nat → Int) (ai1 : Nat → Nat → Int) (al1 : Nat → Nat → Int64) (az1 : Nat → Nat → Int32), tm sc1 ai1 al1 az1 v0 v1 ∧ tmok ai1 ∧ gi sc1 ai1 al1 az1 ∧ fr [40] [261] 1 0 sc ai al az sc1 ai1 al1 az1 ∧ ((0 ≤ sc1 40 ∧ sc1 40 ≤ 8) ∧ bs sc1 ai1 al1 az1 (sc1 40) (16 + sc 42))) ∧ r = none))) := by
  have hF0 : fr [40] [261] 1 0 sc ai al az sc ai al az := fr_0 _ _ _ _ _ _ _ _
  intro N
  induction N with
  | zero => exact ⟨by intros; omega, by intros; omega⟩
  | succ N ih =>
    refine ⟨?_, ?_⟩
    ·
      intro vh sc_ ai_ x1 hM hK hJ hF hx1 hi0 hi1 hi2 hN
      have hn8 := hJ.1.1.1
      have hbl := bs_last hi0 (by omega)
      refine w_ldI e96_7 (fun _ => rfl) rfl ?_
      refine w_if e96_8 (by omega) (fun (h14 : x1 = 0) => ?_) (fun (h14 : x1 ≠ 0) => ?_)
      ·
        exact w_rv e96_98 rfl ⟨⟨sc_, ai_, al, az, hM, hK, hJ, hF, ⟨by omega, hi0⟩⟩, rfl⟩
      ·
        refine w_kI e96_11 ?_
        refine w_stI (j := 2) (A1 := [some (.ref 238), some (.int (vz x1)), some (.int (vz (-1))), none]) e96_12 (fun _ => rfl) (by decide) rfl ?_
        refine w_kI e96_13 ?_
        refine w_stI (j := 3) (A1 := [some (.ref 238), some (.int (vz x1)), some (.int (vz (-1))), some (.int (vz 0))]) e96_14 (fun _ => rfl) (by decide) rfl ?_
        exact w_sub (A1 := [some (.ref 238), some (.int (vz x1)), some (.int (vz (-1))), some (.int (vz 0))]) (And.intro rfl (And.intro rfl (And.intro rfl (And.intro rfl trivial)))) ((ih.2) vh sc_ ai_ x1 (-1) 0 hM hK hJ hF (by omega) (by omega) (by omega) hi0 hi1 (by omega) (by omega) (by omega))
    ·
      intro vh sc_ ai_ x1 x2 x3 hM hK hJ hF hx1 hx2 hx3 hi0 hi1 hi2 hi3 hN
      have hn8 := hJ.1.1.1
      have hbl := bs_last hi0 (by omega)
      have hm9 := mpI_bd sc_ ai_ al az x2 hn8
      refine w_ldI e96_15 (fun _ => rfl) rfl ?_
      refine w_ldA e96_16 (fun _ => rfl) rfl ?_
      have e15 := tm_o hM
      refine w_get e96_17 e15 rfl ?_
      refine w_ic e96_20 (by omega) (tm_s hM 42) (fun (h16 : sc_ 42 ≤ x3) => ?_) (fun (h16 : x3 < sc_ 42) => ?_)
      ·
        refine w_ldI e96_61 (fun _ => rfl) rfl ?_
        refine w_if e96_62 (by omega) (fun (h17 : x2 < 0) => ?_) (fun (h17 : 0 ≤ x2) => ?_)
        ·
          refine w_kI e96_69 ?_
          refine w_stI (j := 1) (A1 := [some (.ref 238), some (.int (vz 0)), some (.int (vz x2)), some (.int (vz x3))]) e96_70 (fun _ => rfl) (by decide) rfl ?_
          refine w_ldI e96_71 (fun _ => rfl) rfl ?_
          refine w_if e96_72 (by omega) (fun (h18 : 0 = 0) => ?_) (fun (h18 : 0 ≠ 0) => ?_)
          ·
            refine w_x e96_95 (fun _ => rfl) ?_
            exact w_sub (A1 := [some (.ref 238), some (.int (vz 0)), none, none]) (And.intro rfl (And.intro rfl trivial)) ((ih.1) vh sc_ ai_ 0 hM hK hJ hF (by omega) hi0 hi1 (by omega) (by omega))
          ·
            refine w_ldA e96_75 (fun _ => rfl) rfl ?_
            refine w_get e96_76 e15 rfl ?_
            refine w_ldA e96_79 (fun _ => rfl) rfl ?_
            refine w_get e96_80 e15 rfl ?_
            refine w_ldI e96_83 (fun _ => rfl) rfl ?_
            have e19 := tm_i hM (a := 261) (n := 8) rfl
            refine w_ast e96_84 e19 (by omega) (by omega) (by decide) (by decide) (fun v22 b20 h21 => ?_)
            obtain ⟨ai23, hd25, hM24⟩ : ∃ z, z = u2 ai_ 261 (sc_ 40).toNat x2 ∧ tm sc_ z al az v0 v22 := ⟨_, rfl, tm_pi hM rfl (by omega) b20 h21⟩
            have hK26 : tmok ai23 := by rw [hd25]; exact tmok_u hK (by decide) (by decide)
            have hF27 : fr [40] [261] 1 0 sc ai al az sc_ ai23 al az := fr_i hF hd25 rfl (by decide)
            have hI28 : gi sc_ ai23 al az := gi_i hJ hd25 (by decide)
            have hR29 := rws_fr hi1 hK (fr_i (X := []) (Y := [261]) (lo := 1) (hi := 0) (fr_0 _ _ _ _ sc_ ai_ al az) hd25 rfl (by decide)) rfl rfl rfl (by omega)
            refine w_ldA e96_85 (fun _ => rfl) rfl ?_
            refine w_x e96_86 (fun _ => rfl) ?_
            have e30 := tm_o hM24
            refine w_get e96_87 e30 rfl ?_
            refine w_kI e96_90 ?_
            refine w_iadd e96_91 ?_
            refine w_put e96_92 e30 (Nat.le_of_ble_eq_true rfl) rfl (fun v33 b31 h32 => ?_)
            obtain ⟨sc34, hd36, hM35⟩ : ∃ z, z = u1 sc_ 40 ((sc_ 40) + 1) ∧ tm z ai23 al az v0 v33 := ⟨_, rfl, tm_ps 40 hM24 (by omega) b31 h32⟩
            have hs37 : sc34 1 = sc_ 1 := by rw [hd36]; exact u1_o (by decide)
            have hs38 : sc34 40 = (sc_ 40) + 1 := by rw [hd36]; exact u1_s
            have hs39 : sc34 42 = sc_ 42 := by rw [hd36]; exact u1_o (by decide)
            have hF40 : fr [40] [261] 1 0 sc ai al az sc34 ai23 al az := fr_s hF27 hd36 rfl
            have hI41 : gi sc34 ai23 al az := gi_s hI28 hd36 (by decide) (by decide) (by decide)
            have hR42 := rws_fr hR29 hK26 (fr_s (X := [40]) (Y := []) (lo := 1) (hi := 0) (fr_0 _ _ _ _ sc_ ai23 al az) hd36 rfl) rfl rfl rfl (by omega)
            have hB43 := bs_add hi0 hK (by omega) (by omega) (x := x2) (by omega) hd25 hd36
            refine w_x e96_95 (fun _ => rfl) ?_
            exact w_sub (A1 := [some (.ref 238), some (.int (vz 0)), none, none]) (And.intro rfl (And.intro rfl trivial)) ((ih.1) v33 sc34 ai23 0 hM35 hK26 hI41 hF40 (by omega) hB43 hR42 (by omega) (by omega))
        ·
          refine w_kI e96_65 ?_
          refine w_x e96_66 (fun _ => rfl) ?_
          refine w_stI (j := 1) (A1 := [some (.ref 238), some (.int (vz 1)), some (.int (vz x2)), some (.int (vz x3))]) e96_70 (fun _ => rfl) (by decide) rfl ?_
          refine w_ldI e96_71 (fun _ => rfl) rfl ?_
          refine w_if e96_72 (by omega) (fun (h44 : 1 = 0) => ?_) (fun (h44 : 1 ≠ 0) => ?_)
          ·
            refine w_x e96_95 (fun _ => rfl) ?_
            exact w_sub (A1 := [some (.ref 238), some (.int (vz 1)), none, none]) (And.intro rfl (And.intro rfl trivial)) ((ih.1) vh sc_ ai_ 1 hM hK hJ hF (by omega) hi0 hi1 (by omega) (by omega))
          ·
            refine w_ldA e96_75 (fun _ => rfl) rfl ?_
            refine w_get e96_76 e15 rfl ?_
            refine w_ldA e96_79 (fun _ => rfl) rfl ?_
            refine w_get e96_80 e15 rfl ?_
            refine w_ldI e96_83 (fun _ => rfl) rfl ?_
            have e45 := tm_i hM (a := 261) (n := 8) rfl
            refine w_ast e96_84 e45 (by omega) (by omega) (by decide) (by decide) (fun v48 b46 h47 => ?_)
            obtain ⟨ai49, hd51, hM50⟩ : ∃ z, z = u2 ai_ 261 (sc_ 40).toNat x2 ∧ tm sc_ z al az v0 v48 := ⟨_, rfl, tm_pi hM rfl (by omega) b46 h47⟩
            have hK52 : tmok ai49 := by rw [hd51]; exact tmok_u hK (by decide) (by decide)
            have hF53 : fr [40] [261] 1 0 sc ai al az sc_ ai49 al az := fr_i hF hd51 rfl (by decide)
            have hI54 : gi sc_ ai49 al az := gi_i hJ hd51 (by decide)
            have hR55 := rws_fr hi1 hK (fr_i (X := []) (Y := [261]) (lo := 1) (hi := 0) (fr_0 _ _ _ _ sc_ ai_ al az) hd51 rfl (by decide)) rfl rfl rfl (by omega)
            refine w_ldA e96_85 (fun _ => rfl) rfl ?_
            refine w_x e96_86 (fun _ => rfl) ?_
            have e56 := tm_o hM50
            refine w_get e96_87 e56 rfl ?_
            refine w_kI e96_90 ?_
            refine w_iadd e96_91 ?_
            refine w_put e96_92 e56 (Nat.le_of_ble_eq_true rfl) rfl (fun v59 b57 h58 => ?_)
            obtain ⟨sc60, hd62, hM61⟩ : ∃ z, z = u1 sc_ 40 ((sc_ 40) + 1) ∧ tm z ai49 al az v0 v59 := ⟨_, rfl, tm_ps 40 hM50 (by omega) b57 h58⟩
            have hs63 : sc60 1 = sc_ 1 := by rw [hd62]; exact u1_o (by decide)
            have hs64 : sc60 40 = (sc_ 40) + 1 := by rw [hd62]; exact u1_s
            have hs65 : sc60 42 = sc_ 42 := by rw [hd62]; exact u1_o (by decide)
            have hF66 : fr [40] [261] 1 0 sc ai al az sc60 ai49 al az := fr_s hF53 hd62 rfl
            have hI67 : gi sc60 ai49 al az := gi_s hI54 hd62 (by decide) (by decide) (by decide)
            have hR68 := rws_fr hR55 hK52 (fr_s (X := [40]) (Y := []) (lo := 1) (hi := 0) (fr_0 _ _ _ _ sc_ ai49 al az) hd62 rfl) rfl rfl rfl (by omega)
            have hB69 := bs_add hi0 hK (by omega) (by omega) (x := x2) (by omega) hd51 hd62
            refine w_x e96_95 (fun _ => rfl) ?_
            exact w_sub (A1 := [some (.ref 238), some (.int (vz 1)), none, none]) (And.intro rfl (And.intro rfl trivial)) ((ih.1) v59 sc60 ai49 1 hM61 hK52 hI67 hF66 (by omega) hB69 hR68 (by omega) (by omega))
      ·
        refine w_ldA e96_23 (fun _ => rfl) rfl ?_
        refine w_kB e96_24 rfl ?_
        refine w_ldI e96_26 (fun _ => rfl) rfl ?_
        refine w_iadd e96_27 ?_
        refine w_cv e96_28 (by decide) rfl e15 rfl (Nat.le_of_ble_eq_true rfl) (Nat.le_of_ble_eq_true rfl) (Nat.le_of_ble_eq_true rfl) (by decide) (by decide) (c95 hM hK (by omega) hJ.1.1.1 (by omega) hi0 (by omega)) (fun o70 v71 hq72 => ?_)
        obtain ⟨rfl, q73, h74, rfl⟩ := hq72
        have hr75 := hi1 x3 (by omega) (by omega)
        refine w_if e96_31 (by omega) (fun (h76 : q73 = 0) => ?_) (fun (h76 : q73 ≠ 0) => ?_)
        ·
          refine w_iinc (A1 := [some (.ref 238), some (.int (vz x1)), some (.int (vz x2)), some (.int (vz (x3 + 1)))]) e96_55 rfl (by decide) rfl ?_
          refine w_x e96_58 (fun _ => rfl) ?_
          exact w_sub (A1 := [some (.ref 238), some (.int (vz x1)), some (.int (vz x2)), some (.int (vz (x3 + 1)))]) (And.intro rfl (And.intro rfl (And.intro rfl (And.intro rfl trivial)))) ((ih.2) vh sc_ ai_ x1 x2 (x3 + 1) hM hK hJ hF (by omega) (by omega) (by omega) hi0 hi1 (by omega) (by omega) (by omega))
        ·
          refine w_ldI e96_34 (fun _ => rfl) rfl ?_
          refine w_if e96_35 (by omega) (fun (h77 : x2 < 0) => ?_) (fun (h77 : 0 ≤ x2) => ?_)
          ·
            refine w_kB e96_50 rfl ?_
            refine w_ldI e96_52 (fun _ => rfl) rfl ?_
            refine w_iadd e96_53 ?_
            refine w_stI (j := 2) (A1 := [some (.ref 238), some (.int (vz x1)), some (.int (vz (16 + x3))), some (.int (vz x3))]) e96_54 (fun _ => rfl) (by decide) rfl ?_
            refine w_iinc (A1 := [some (.ref 238), some (.int (vz x1)), some (.int (vz (16 + x3))), some (.int (vz (x3 + 1)))]) e96_55 rfl (by decide) rfl ?_
            refine w_x e96_58 (fun _ => rfl) ?_
            exact w_sub (A1 := [some (.ref 238), some (.int (vz x1)), some (.int (vz (16 + x3))), some (.int (vz (x3 + 1)))]) (And.intro rfl (And.intro rfl (And.intro rfl (And.intro rfl trivial)))) ((ih.2) vh sc_ ai_ x1 (16 + x3) (x3 + 1) hM hK hJ hF (by omega) (by omega) (by omega) hi0 hi1 (by omega) (by omega) (by omega))
          ·
            refine w_ldA e96_38 (fun _ => rfl) rfl ?_
            refine w_kB e96_39 rfl ?_
            refine w_ldI e96_41 (fun _ => rfl) rfl ?_
            refine w_iadd e96_42 ?_
            refine w_ldI e96_43 (fun _ => rfl) rfl ?_
            refine w_cv e96_44 (by decide) rfl e15 rfl (Nat.le_of_ble_eq_true rfl) (Nat.le_of_ble_eq_true rfl) (Nat.le_of_ble_eq_true rfl) (by decide) (by decide) (c94 hM hK (by omega) (by omega) hJ.1.1.1 (by omega) (by omega)) (fun o78 v79 hq80 => ?_)
            obtain ⟨rfl, q81, h82, rfl⟩ := hq80
            refine w_if e96_47 (by omega) (fun (h83 : q81 = 0) => ?_) (fun (h83 : q81 ≠ 0) => ?_)
            ·
              refine w_iinc (A1 := [some (.ref 238), some (.int (vz x1)), some (.int (vz x2)), some (.int (vz (x3 + 1)))]) e96_55 rfl (by decide) rfl ?_
              refine w_x e96_58 (fun _ => rfl) ?_
              exact w_sub (A1 := [some (.ref 238), some (.int (vz x1)), some (.int (vz x2)), some (.int (vz (x3 + 1)))]) (And.intro rfl (And.intro rfl (And.intro rfl (And.intro rfl trivial)))) ((ih.2) vh sc_ ai_ x1 x2 (x3 + 1) hM hK hJ hF (by omega) (by omega) (by omega) hi0 hi1 (by omega) (by omega) (by omega))
            ·
              refine w_kB e96_50 rfl ?_
              refine w_ldI e96_52 (fun _ => rfl) rfl ?_
              refine w_iadd e96_53 ?_
              refine w_stI (j := 2) (A1 := [some (.ref 238), some (.int (vz x1)), some (.int (vz (16 + x3))), some (.int (vz x3))]) e96_54 (fun _ => rfl) (by decide) rfl ?_
              refine w_iinc (A1 := [some (.ref 238), some (.int (vz x1)), some (.int (vz (16 + x3))), some (.int (vz (x3 + 1)))]) e96_55 rfl (by decide) rfl ?_
              refine w_x e96_58 (fun _ => rfl) ?_
              exact w_sub (A1 := [some (.ref 238), some (.int (vz x1)), some (.int (vz (16 + x3))), some (.int (vz (x3 + 1)))]) (And.intro rfl (And.intro rfl (And.intro rfl (And.intro rfl trivial)))) ((ih.2) vh sc_ ai_ x1 (16 + x3) (x3 + 1) hM hK hJ hF (by omega) (by omega) (by omega) hi0 hi1 (by omega) (by omega) (by omega))
set_option maxRecDepth 100000 in
set_option maxHeartbeats 4000000 in
theorem c96 {sc : Nat → Int} {ai : Nat → Nat → Int} {al : Nat → Nat → Int64} {az : Nat → Nat → Int32} {v0 vh : vm_H} (hM : tm sc ai al az v0 vh) (hK : tmok ai) (hI : gi sc ai al az) (hr : 0 ≤ sc 42 ∧ sc 42 ≤ 40) (hR : rws sc ai al az (sc 42)) : vm_Rp 4 95 96 [.ref 238] vh (fun r v1 => (∃ (sc1 : Nat → Int) (ai1 : Nat → Nat → Int) (al1 : Nat → Nat → Int64) (az1 : Nat → Nat → Int32), tm sc1 ai1 al1 az1 v0 v1 ∧ tmok ai1 ∧ gi sc1 ai1 al1 az1 ∧ fr [40] [261] 1 0 sc ai al az sc1 ai1 al1 az1 ∧ ((0 ≤ sc1 40 ∧ sc1 40 ≤ 8) ∧ bs sc1 ai1 al1 az1 (sc1 40) (16 + sc 42))) ∧ r = none) := by
  have hF0 : fr [40] [261] 1 0 sc ai al az sc ai al az := fr_0 _ _ _ _ _ _ _ _
  refine w_in (m := 3) ?_
  show vm_Wp _ _ _ 0 [some (.ref 238), none, none, none] [] _ _
  refine w_ldA e96_0 (fun _ => rfl) rfl ?_
  refine w_kI e96_1 ?_
  have e1 := tm_o hM
  refine w_put e96_2 e1 (Nat.le_of_ble_eq_true rfl) rfl (fun v4 b2 h3 => ?_)
  obtain ⟨sc5, hd7, hM6⟩ : ∃ z, z = u1 sc 40 (0) ∧ tm z ai al az v0 v4 := ⟨_, rfl, tm_ps 40 hM (by omega) b2 h3⟩
  have hs8 : sc5 1 = sc 1 := by rw [hd7]; exact u1_o (by decide)
  have hs9 : sc5 40 = 0 := by rw [hd7]; exact u1_s
  have hs10 : sc5 42 = sc 42 := by rw [hd7]; exact u1_o (by decide)
  have hF11 : fr [40] [261] 1 0 sc ai al az sc5 ai al az := fr_s hF0 hd7 rfl
  have hI12 : gi sc5 ai al az := gi_s hI hd7 (by decide) (by decide) (by decide)
  have hR13 := rws_fr hR hK (fr_s (X := [40]) (Y := []) (lo := 1) (hi := 0) (fr_0 _ _ _ _ sc ai al az) hd7 rfl) rfl rfl rfl (by omega)
  refine w_kI e96_5 ?_
  refine w_stI (j := 1) (A1 := [some (.ref 238), some (.int (vz 1)), none, none]) e96_6 (fun _ => rfl) (by decide) rfl ?_
  exact w_sub (A1 := [some (.ref 238), some (.int (vz 1)), none, none]) (And.intro rfl (And.intro rfl trivial)) (((c96_L (sc := sc) (ai := ai) (al := al) (az := az) (v0 := v0) hK hI hr hR _).1) v4 sc5 ai 1 hM6 hK hI12 hF11 (by omega) (fun m hm => by omega) hR13 (by omega) (Nat.lt_succ_self _))
set_option maxRecDepth 100000 in
set_option maxHeartbeats 4000000 in
theorem c99 {sc : Nat → Int} {ai : Nat → Nat → Int} {al : Nat → Nat → Int64} {az : Nat → Nat → Int32} {v0 vh : vm_H} (hM : tm sc ai al az v0 vh) (hK : tmok ai) (hI : gi sc ai al az) {i1 : Int} (hi_1 : (0 ≤ i1 ∧ i1 < 72) ∧ i1 ≠ 68) : vm_Rp 1 23 99 [.ref 238, .int (vz i1)] vh (fun r v1 => (∃ (sc1 : Nat → Int) (ai1 : Nat → Nat → Int) (al1 : Nat → Nat → Int64) (az1 : Nat → Nat → Int32), tm sc1 ai1 al1 az1 v0 v1 ∧ tmok ai1 ∧ gi sc1 ai1 al1 az1 ∧ fr [13] [] 68 68 sc ai al az sc1 ai1 al1 az1 ∧ (True)) ∧ r = none) := by
  have hF0 : fr [13] [] 68 68 sc ai al az sc ai al az := fr_0 _ _ _ _ _ _ _ _
  refine w_in (m := 0) ?_
  show vm_Wp _ _ _ 0 [some (.ref 238), some (.int (vz i1))] [] _ _
  refine w_ldA e99_0 (fun _ => rfl) rfl ?_
  refine w_ldI e99_1 (fun _ => rfl) rfl ?_
  refine w_kB e99_2 rfl ?_
  have e1 := tm_o hM
  refine w_cv e99_4 (by decide) rfl e1 rfl (Nat.le_of_ble_eq_true rfl) (Nat.le_of_ble_eq_true rfl) (Nat.le_of_ble_eq_true rfl) (by decide) (by decide) (k81 hM hK hI (by omega) (by omega) (by omega)) (fun o2 v3 hq4 => ?_)
  obtain ⟨⟨sc5, ai6, al7, az8, hM9, hK10, hI11, hG12, hE13⟩, rfl⟩ := hq4
  have hF14 : fr [13] [] 68 68 sc ai al az sc5 ai6 al7 az8 := fr_t hF0 hG12 rfl rfl (by omega)
  refine w_ldA e99_7 (fun _ => rfl) rfl ?_
  refine w_kI e99_8 ?_
  have e15 := tm_o hM9
  refine w_put e99_9 e15 (Nat.le_of_ble_eq_true rfl) (vz_okz (by omega)) (fun v18 b16 h17 => ?_)
  obtain ⟨sc19, hd21, hM20⟩ : ∃ z, z = u1 sc5 13 (1) ∧ tm z ai6 al7 az8 v0 v18 := ⟨_, rfl, tm_ps 13 hM9 (by omega) b16 h17⟩
  have hF22 : fr [13] [] 68 68 sc ai al az sc19 ai6 al7 az8 := fr_s hF14 hd21 rfl
  have hI23 : gi sc19 ai6 al7 az8 := gi_s hI11 hd21 (by decide) (by decide) (by decide)
  exact w_rv e99_12 rfl ⟨⟨sc19, ai6, al7, az8, hM20, hK10, hI23, hF22, trivial⟩, rfl⟩
set_option maxRecDepth 100000 in
set_option maxHeartbeats 4000000 in
theorem c100_L {sc : Nat → Int} {ai : Nat → Nat → Int} {al : Nat → Nat → Int64} {az : Nat → Nat → Int32} {v0 : vm_H} (hK0 : tmok ai) (hI : gi sc ai al az) (hr : 0 ≤ sc 42 ∧ sc 42 ≤ 40) (hR : rws sc ai al az (sc 42)) (h16 : 0 ≤ sc 16 ∧ sc 16 ≤ 1000) (h14 : 0 ≤ sc 14 ∧ sc 14 < 12) : ∀ N : Nat, (∀ (vh : vm_H) (sc_ : Nat → Int) (ai_ : Nat → Nat → Int) (al_ : Nat → Nat → Int64) (az_ : Nat → Nat → Int32) (x1 : Int) (x2 : Int), (tm sc_ ai_ al_ az_ v0 vh) → (tmok ai_) → (gi sc_ ai_ al_ az_) → (fr [13, 14, 16, 27, 28, 38, 40, 41, 42] [252, 253, 254, 255, 256, 257, 258, 259, 260, 261] 16 70 sc ai al az sc_ ai_ al_ az_) → (0 ≤ x1 ∧ x1 ≤ sc_ 42) → (0 ≤ x2 ∧ x2 ≤ x1) → (bs sc_ ai_ al_ az_ (sc_ 40) (16 + x1)) → (rws sc_ ai_ al_ az_ (sc_ 42)) → ((0 ≤ sc_ 40 ∧ sc_ 40 ≤ 8) ∧ (0 ≤ sc_ 42 ∧ sc_ 42 ≤ 40) ∧ (0 ≤ sc_ 16 ∧ sc_ 16 ≤ 1000) ∧ sc_ 14 = sc 14 + 1) → ((x1 - x2 : Int).toNat < N) → vm_Wp 6 157 100 21 [some (.ref 238), some (.int (vz x1)), some (.int (vz x2)), none, none] [] vh (vq_P 100 (fun r v1 => (∃ (sc1 : Nat → Int) (ai1 : Nat → Nat → Int) (al1 : Nat → Nat → Int64) (az1 : Nat → Nat → Int32), tm sc1 ai1 al1 az1 v0 v1 ∧ tmok ai1 ∧ gi sc1 ai1 al1 az1 ∧ fr [13, 14, 16, 27, 28, 38, 40, 41, 42] [252, 253, 254, 255, 256, 257, 258, 259, 260, 261] 16 70 sc ai al az sc1 ai1 al1 az1 ∧ ((0 ≤ sc1 42 ∧ sc1 42 ≤ 40) ∧ rws sc1 ai1 al1 az1 (sc1 42) ∧ (0 ≤ sc1 16 ∧ sc1 16 ≤ 1000) ∧ sc1 14 = sc 14 + 1 ∧ (0 ≤ sc1 40 ∧ sc1 40 ≤ 8) ∧ bs sc1 ai1 al1 az1 (sc1 40) 56)) ∧ ∃ q : Int, (0 ≤ q ∧ q ≤ 3) ∧ r = some (.int (vz q))))) := by
  have hF0 : fr [13, 14, 16, 27, 28, 38, 40, 41, 42] [252, 253, 254, 255, 256, 257, 258, 259, 260, 261] 16 70 sc ai al az sc ai al az := fr_0 _ _ _ _ _ _ _ _
  intro N
  induction N with
  | zero => exact (by intros; omega)
  | succ N ih =>
    ·
      intro vh sc_ ai_ al_ az_ x1 x2 hM hK hJ hF hx1 hx2 hi0 hi1 hi2 hN
      have hn8 := hJ.1.1.1
      refine w_ldI e100_21 (fun _ => rfl) rfl ?_
      refine w_ldI e100_22 (fun _ => rfl) rfl ?_
      refine w_ic e100_23 (by omega) (by omega) (fun (h40 : x1 ≤ x2) => ?_) (fun (h40 : x2 < x1) => ?_)
      ·
        refine w_ldA e100_180 (fun _ => rfl) rfl ?_
        have e41 := tm_o hM
        refine w_get e100_181 e41 rfl ?_
        refine w_ldI e100_184 (fun _ => rfl) rfl ?_
        refine w_ic e100_185 (tm_s hM 42) (by omega) (fun (h42 : sc_ 42 ≠ x1) => ?_) (fun (h42 : sc_ 42 = x1) => ?_)
        ·
          refine w_kI e100_192 ?_
          exact w_ri e100_193 rfl ⟨⟨sc_, ai_, al_, az_, hM, hK, hJ, hF, ⟨by omega, (rws_n hi1 (by omega)), by omega, by omega, by omega, bs_w (bs_n hi0 (by omega)) (by omega)⟩⟩, 3, (by omega), rfl⟩
        ·
          refine w_kI e100_188 ?_
          refine w_x e100_189 (fun _ => rfl) ?_
          exact w_ri e100_193 rfl ⟨⟨sc_, ai_, al_, az_, hM, hK, hJ, hF, ⟨by omega, (rws_n hi1 (by omega)), by omega, by omega, by omega, bs_w (bs_n hi0 (by omega)) (by omega)⟩⟩, 1, (by omega), rfl⟩
      ·
        refine w_ldA e100_26 (fun _ => rfl) rfl ?_
        refine w_kB e100_27 rfl ?_
        refine w_ldI e100_29 (fun _ => rfl) rfl ?_
        refine w_iadd e100_30 ?_
        have e43 := tm_o hM
        refine w_cv e100_31 (by decide) rfl e43 rfl (Nat.le_of_ble_eq_true rfl) (Nat.le_of_ble_eq_true rfl) (Nat.le_of_ble_eq_true rfl) (by decide) (by decide) (c97 hM hK (by omega) (by omega)) (fun o44 v45 hq46 => ?_)
        obtain ⟨rfl, q47, h48, rfl⟩ := hq46
        refine w_if e100_34 (by omega) (fun (h49 : q47 ≠ 0) => ?_) (fun (h49 : q47 = 0) => ?_)
        ·
          refine w_iinc (A1 := [some (.ref 238), some (.int (vz x1)), some (.int (vz (x2 + 1))), none, none]) e100_174 rfl (by decide) rfl ?_
          refine w_x e100_177 (fun _ => rfl) ?_
          exact w_sub (A1 := [some (.ref 238), some (.int (vz x1)), some (.int (vz (x2 + 1))), none, none]) (And.intro rfl (And.intro rfl (And.intro rfl trivial))) ((ih) vh sc_ ai_ al_ az_ x1 (x2 + 1) hM hK hJ hF (by omega) (by omega) (bs_w (bs_n hi0 (by omega)) (by omega)) (rws_n hi1 (by omega)) (by omega) (by omega))
        ·
          refine w_ldA e100_37 (fun _ => rfl) rfl ?_
          refine w_kB e100_38 rfl ?_
          refine w_ldI e100_40 (fun _ => rfl) rfl ?_
          refine w_iadd e100_41 ?_
          refine w_kB e100_42 rfl ?_
          refine w_cv e100_44 (by decide) rfl e43 rfl (Nat.le_of_ble_eq_true rfl) (Nat.le_of_ble_eq_true rfl) (Nat.le_of_ble_eq_true rfl) (by decide) (by decide) (k81 hM hK hJ (by omega) (by omega) (by omega)) (fun o50 v51 hq52 => ?_)
          obtain ⟨⟨sc53, ai54, al55, az56, hM57, hK58, hI59, hG60, hE61⟩, rfl⟩ := hq52
          have hs62 : sc53 1 = sc_ 1 := hG60.1 1 rfl
          have hs63 : sc53 14 = sc_ 14 := hG60.1 14 rfl
          have hs64 : sc53 16 = sc_ 16 := hG60.1 16 rfl
          have hs65 : sc53 40 = sc_ 40 := hG60.1 40 rfl
          have hs66 : sc53 41 = sc_ 41 := hG60.1 41 rfl
          have hs67 : sc53 42 = sc_ 42 := hG60.1 42 rfl
          have hF68 : fr [13, 14, 16, 27, 28, 38, 40, 41, 42] [252, 253, 254, 255, 256, 257, 258, 259, 260, 261] 16 70 sc ai al az sc53 ai54 al55 az56 := fr_t hF hG60 rfl rfl (by omega)
          have hR69 := rws_fr hi1 hK hG60 rfl rfl rfl (by omega)
          have hB70 := bs_fr hi0 hK hG60 rfl rfl rfl rfl (by omega)
          refine w_kS e100_47 rfl ?_
          refine w_ldA e100_50 (fun _ => rfl) rfl ?_
          have e71 := tm_o hM57
          refine w_get e100_51 e71 rfl ?_
          refine w_isub e100_54 ?_
          refine w_stI (j := 3) (A1 := [some (.ref 238), some (.int (vz x1)), some (.int (vz x2)), some (.int (vz (1000 - (sc53 16)))), none]) e100_55 (fun _ => rfl) (by decide) rfl ?_
          refine w_ldA e100_56 (fun _ => rfl) rfl ?_
          refine w_kI e100_57 ?_
          refine w_ldI e100_58 (fun _ => rfl) rfl ?_
          refine w_kS e100_59 rfl ?_
          refine w_ic e100_62 (by omega) (by omega) (fun (h72 : 200 ≤ 1000 - (sc53 16)) => ?_) (fun (h72 : 1000 - (sc53 16) < 200) => ?_)
          ·
            refine w_kS e100_69 rfl ?_
            refine w_cv e100_72 (by decide) rfl e71 rfl (Nat.le_of_ble_eq_true rfl) (Nat.le_of_ble_eq_true rfl) (Nat.le_of_ble_eq_true rfl) (by decide) (by decide) (c93 hM57 hK58 hI59 (by omega) (by omega) (by omega) (bs_w (bs_n hB70 (by omega)) (by omega)) (Or.inl rfl)) (fun o73 v74 hq75 => ?_)
            obtain ⟨⟨sc76, ai77, al78, az79, hM80, hK81, hI82, hG83, hE84⟩, q85, h86, rfl⟩ := hq75
            have hs87 : sc76 1 = sc53 1 := hG83.1 1 rfl
            have hs88 : sc76 14 = sc53 14 := hG83.1 14 rfl
            have hs89 : sc76 16 = sc53 16 := hG83.1 16 rfl
            have hs90 : sc76 40 = sc53 40 := hG83.1 40 rfl
            have hs91 : sc76 42 = sc53 42 := hG83.1 42 rfl
            have hF92 : fr [13, 14, 16, 27, 28, 38, 40, 41, 42] [252, 253, 254, 255, 256, 257, 258, 259, 260, 261] 16 70 sc ai al az sc76 ai77 al78 az79 := fr_t hF68 hG83 rfl rfl (by omega)
            have hR93 := rws_fr hR69 hK58 hG83 rfl rfl rfl (by omega)
            have hB94 := bs_fr hB70 hK58 hG83 rfl rfl rfl rfl (by omega)
            have hb95 := hE84.1
            refine w_stI (j := 4) (A1 := [some (.ref 238), some (.int (vz x1)), some (.int (vz x2)), some (.int (vz (1000 - (sc53 16)))), some (.int (vz q85))]) e100_75 (fun _ => rfl) (by decide) rfl ?_
            refine w_ldA e100_77 (fun _ => rfl) rfl ?_
            refine w_x e100_78 (fun _ => rfl) ?_
            have e96 := tm_o hM80
            refine w_get e100_79 e96 rfl ?_
            refine w_ldA e100_82 (fun _ => rfl) rfl ?_
            refine w_get e100_83 e96 rfl ?_
            refine w_iadd e100_86 ?_
            refine w_put e100_87 e96 (Nat.le_of_ble_eq_true rfl) rfl (fun v99 b97 h98 => ?_)
            obtain ⟨sc100, hd102, hM101⟩ : ∃ z, z = u1 sc76 16 ((sc76 16) + (sc76 41)) ∧ tm z ai77 al78 az79 v0 v99 := ⟨_, rfl, tm_ps 16 hM80 (by omega) b97 h98⟩
            have hs103 : sc100 1 = sc76 1 := by rw [hd102]; exact u1_o (by decide)
            have hs104 : sc100 14 = sc76 14 := by rw [hd102]; exact u1_o (by decide)
            have hs105 : sc100 16 = (sc76 16) + (sc76 41) := by rw [hd102]; exact u1_s
            have hs106 : sc100 40 = sc76 40 := by rw [hd102]; exact u1_o (by decide)
            have hs107 : sc100 41 = sc76 41 := by rw [hd102]; exact u1_o (by decide)
            have hs108 : sc100 42 = sc76 42 := by rw [hd102]; exact u1_o (by decide)
            have hF109 : fr [13, 14, 16, 27, 28, 38, 40, 41, 42] [252, 253, 254, 255, 256, 257, 258, 259, 260, 261] 16 70 sc ai al az sc100 ai77 al78 az79 := fr_s hF92 hd102 rfl
            have hI110 : gi sc100 ai77 al78 az79 := gi_s hI82 hd102 (by decide) (by decide) (by decide)
            have hR111 := rws_fr hR93 hK81 (fr_s (X := [16]) (Y := []) (lo := 1) (hi := 0) (fr_0 _ _ _ _ sc76 ai77 al78 az79) hd102 rfl) rfl rfl rfl (by omega)
            have hB112 := bs_fr hB94 hK81 (fr_s (X := [16]) (Y := []) (lo := 1) (hi := 0) (fr_0 _ _ _ _ sc76 ai77 al78 az79) hd102 rfl) rfl rfl rfl rfl (by omega)
            refine w_ldI e100_90 (fun _ => rfl) rfl ?_
            refine w_if e100_92 (by omega) (fun (h113 : q85 ≠ 0) => ?_) (fun (h113 : q85 = 0) => ?_)
            ·
              refine w_ldA e100_97 (fun _ => rfl) rfl ?_
              refine w_kB e100_98 rfl ?_
              have e114 := tm_o hM101
              refine w_cv e100_100 (by decide) rfl e114 rfl (Nat.le_of_ble_eq_true rfl) (Nat.le_of_ble_eq_true rfl) (Nat.le_of_ble_eq_true rfl) (by decide) (by decide) (c83 hM101 hK81 hI110 (by omega)) (fun o115 v116 hq117 => ?_)
              obtain ⟨⟨sc118, ai119, al120, az121, hM122, hK123, hI124, hG125, hE126⟩, rfl⟩ := hq117
              have hs127 : sc118 1 = sc100 1 := hG125.1 1 rfl
              have hs128 : sc118 14 = sc100 14 := hG125.1 14 rfl
              have hs129 : sc118 16 = sc100 16 := hG125.1 16 rfl
              have hs130 : sc118 40 = sc100 40 := hG125.1 40 rfl
              have hs131 : sc118 41 = sc100 41 := hG125.1 41 rfl
              have hs132 : sc118 42 = sc100 42 := hG125.1 42 rfl
              have hF133 : fr [13, 14, 16, 27, 28, 38, 40, 41, 42] [252, 253, 254, 255, 256, 257, 258, 259, 260, 261] 16 70 sc ai al az sc118 ai119 al120 az121 := fr_t hF109 hG125 rfl rfl (by omega)
              have hR134 := rws_fr hR111 hK81 hG125 rfl rfl rfl (by omega)
              have hB135 := bs_fr hB112 hK81 hG125 rfl rfl rfl rfl (by omega)
              refine w_ldA e100_103 (fun _ => rfl) rfl ?_
              have e136 := tm_o hM122
              refine w_get e100_104 e136 rfl ?_
              refine w_kB e100_107 rfl ?_
              have e137 := tm_i hM122 (a := 242) (n := 72) rfl
              refine w_ald e100_109 e137 (by omega) (by omega) (by decide) ?_
              show vm_Wp _ _ _ 110 _ [.int (vz (ai119 242 (69 : Int).toNat))] _ _
              have hk138 := hK123.1 (69 : Int).toNat
              refine w_if e100_110 (tm_r hM122 242 (69 : Int).toNat) (fun (h139 : ai119 242 (69 : Int).toNat ≤ 0) => ?_) (fun (h139 : 0 < ai119 242 (69 : Int).toNat) => ?_)
              ·
                refine w_iinc (A1 := [some (.ref 238), some (.int (vz x1)), some (.int (vz (x2 + 1))), some (.int (vz (1000 - (sc53 16)))), some (.int (vz q85))]) e100_174 rfl (by decide) rfl ?_
                refine w_x e100_177 (fun _ => rfl) ?_
                exact w_sub (A1 := [some (.ref 238), some (.int (vz x1)), some (.int (vz (x2 + 1))), none, none]) (And.intro rfl (And.intro rfl (And.intro rfl trivial))) ((ih) v116 sc118 ai119 al120 az121 x1 (x2 + 1) hM122 hK123 hI124 hF133 (by omega) (by omega) (bs_w (bs_n hB135 (by omega)) (by omega)) (rws_n hR134 (by omega)) (by omega) (by omega))
              ·
                refine w_ldA e100_113 (fun _ => rfl) rfl ?_
                refine w_kB e100_114 rfl ?_
                refine w_cv e100_116 (by decide) rfl e136 rfl (Nat.le_of_ble_eq_true rfl) (Nat.le_of_ble_eq_true rfl) (Nat.le_of_ble_eq_true rfl) (by decide) (by decide) (c98 hM122 hK123 (by omega) (by omega)) (fun o140 v141 hq142 => ?_)
                obtain ⟨rfl, q143, h144, rfl⟩ := hq142
                refine w_if e100_119 (by omega) (fun (h145 : q143 ≠ 0) => ?_) (fun (h145 : q143 = 0) => ?_)
                ·
                  refine w_iinc (A1 := [some (.ref 238), some (.int (vz x1)), some (.int (vz (x2 + 1))), some (.int (vz (1000 - (sc53 16)))), some (.int (vz q85))]) e100_174 rfl (by decide) rfl ?_
                  refine w_x e100_177 (fun _ => rfl) ?_
                  exact w_sub (A1 := [some (.ref 238), some (.int (vz x1)), some (.int (vz (x2 + 1))), none, none]) (And.intro rfl (And.intro rfl (And.intro rfl trivial))) ((ih) v116 sc118 ai119 al120 az121 x1 (x2 + 1) hM122 hK123 hI124 hF133 (by omega) (by omega) (bs_w (bs_n hB135 (by omega)) (by omega)) (rws_n hR134 (by omega)) (by omega) (by omega))
                ·
                  refine w_ldA e100_122 (fun _ => rfl) rfl ?_
                  refine w_kB e100_123 rfl ?_
                  refine w_cv e100_125 (by decide) rfl e136 rfl (Nat.le_of_ble_eq_true rfl) (Nat.le_of_ble_eq_true rfl) (Nat.le_of_ble_eq_true rfl) (by decide) (by decide) (c86 hM122 hK123 (by omega) hI124.1.1.1) (fun o146 v147 hq148 => ?_)
                  obtain ⟨rfl, rfl⟩ := hq148
                  have hp149 := mpI_bd sc118 ai119 al120 az121 69 hI124.1.1.1
                  show vm_Wp _ _ _ 128 _ [.int (vz (mpI sc118 ai119 al120 az121 69))] _ _
                  refine w_kI e100_128 ?_
                  refine w_ic e100_129 (by omega) (by omega) (fun (h150 : mpI sc118 ai119 al120 az121 69 ≠ -1) => ?_) (fun (h150 : mpI sc118 ai119 al120 az121 69 = -1) => ?_)
                  ·
                    refine w_ldA e100_140 (fun _ => rfl) rfl ?_
                    refine w_get e100_141 e136 rfl ?_
                    refine w_kB e100_144 rfl ?_
                    refine w_ic e100_146 (tm_s hM122 42) (by omega) (fun (h151 : sc118 42 ≠ 40) => ?_) (fun (h151 : sc118 42 = 40) => ?_)
                    ·
                      refine w_ldA e100_151 (fun _ => rfl) rfl ?_
                      refine w_kB e100_152 rfl ?_
                      refine w_kB e100_154 rfl ?_
                      refine w_ldA e100_156 (fun _ => rfl) rfl ?_
                      refine w_get e100_157 e136 rfl ?_
                      refine w_iadd e100_160 ?_
                      refine w_cv e100_161 (by decide) rfl e136 rfl (Nat.le_of_ble_eq_true rfl) (Nat.le_of_ble_eq_true rfl) (Nat.le_of_ble_eq_true rfl) (by decide) (by decide) (k81 hM122 hK123 hI124 (by omega) (by omega) (by omega)) (fun o152 v153 hq154 => ?_)
                      obtain ⟨⟨sc155, ai156, al157, az158, hM159, hK160, hI161, hG162, hE163⟩, rfl⟩ := hq154
                      have hs164 : sc155 1 = sc118 1 := hG162.1 1 rfl
                      have hs165 : sc155 14 = sc118 14 := hG162.1 14 rfl
                      have hs166 : sc155 16 = sc118 16 := hG162.1 16 rfl
                      have hs167 : sc155 40 = sc118 40 := hG162.1 40 rfl
                      have hs168 : sc155 41 = sc118 41 := hG162.1 41 rfl
                      have hs169 : sc155 42 = sc118 42 := hG162.1 42 rfl
                      have hF170 : fr [13, 14, 16, 27, 28, 38, 40, 41, 42] [252, 253, 254, 255, 256, 257, 258, 259, 260, 261] 16 70 sc ai al az sc155 ai156 al157 az158 := fr_t hF133 hG162 rfl rfl (by omega)
                      have hR171 := rws_fr hR134 hK123 hG162 rfl rfl rfl (by omega)
                      have hB172 := bs_fr hB135 hK123 hG162 rfl rfl rfl rfl (by omega)
                      have he174 := hE163.1
                      rw [show 16 + (sc118 42) = 16 + sc_ 42 by omega] at he174
                      have hR173 := rws_add hR171 (by omega)
                      refine w_ldA e100_164 (fun _ => rfl) rfl ?_
                      refine w_x e100_165 (fun _ => rfl) ?_
                      have e175 := tm_o hM159
                      refine w_get e100_166 e175 rfl ?_
                      refine w_kI e100_169 ?_
                      refine w_iadd e100_170 ?_
                      refine w_put e100_171 e175 (Nat.le_of_ble_eq_true rfl) rfl (fun v178 b176 h177 => ?_)
                      obtain ⟨sc179, hd181, hM180⟩ : ∃ z, z = u1 sc155 42 ((sc155 42) + 1) ∧ tm z ai156 al157 az158 v0 v178 := ⟨_, rfl, tm_ps 42 hM159 (by omega) b176 h177⟩
                      have hs182 : sc179 1 = sc155 1 := by rw [hd181]; exact u1_o (by decide)
                      have hs183 : sc179 14 = sc155 14 := by rw [hd181]; exact u1_o (by decide)
                      have hs184 : sc179 16 = sc155 16 := by rw [hd181]; exact u1_o (by decide)
                      have hs185 : sc179 40 = sc155 40 := by rw [hd181]; exact u1_o (by decide)
                      have hs186 : sc179 41 = sc155 41 := by rw [hd181]; exact u1_o (by decide)
                      have hs187 : sc179 42 = (sc155 42) + 1 := by rw [hd181]; exact u1_s
                      have hF188 : fr [13, 14, 16, 27, 28, 38, 40, 41, 42] [252, 253, 254, 255, 256, 257, 258, 259, 260, 261] 16 70 sc ai al az sc179 ai156 al157 az158 := fr_s hF170 hd181 rfl
                      have hI189 : gi sc179 ai156 al157 az158 := gi_s hI161 hd181 (by decide) (by decide) (by decide)
                      have hR190 := rws_fr hR173 hK160 (fr_s (X := [42]) (Y := []) (lo := 1) (hi := 0) (fr_0 _ _ _ _ sc155 ai156 al157 az158) hd181 rfl) rfl rfl rfl (by omega)
                      have hB191 := bs_fr hB172 hK160 (fr_s (X := [42]) (Y := []) (lo := 1) (hi := 0) (fr_0 _ _ _ _ sc155 ai156 al157 az158) hd181 rfl) rfl rfl rfl rfl (by omega)
                      refine w_iinc (A1 := [some (.ref 238), some (.int (vz x1)), some (.int (vz (x2 + 1))), some (.int (vz (1000 - (sc53 16)))), some (.int (vz q85))]) e100_174 rfl (by decide) rfl ?_
                      refine w_x e100_177 (fun _ => rfl) ?_
                      exact w_sub (A1 := [some (.ref 238), some (.int (vz x1)), some (.int (vz (x2 + 1))), none, none]) (And.intro rfl (And.intro rfl (And.intro rfl trivial))) ((ih) v178 sc179 ai156 al157 az158 x1 (x2 + 1) hM180 hK160 hI189 hF188 (by omega) (by omega) (bs_w (bs_n hB191 (by omega)) (by omega)) (rws_n hR190 (by omega)) (by omega) (by omega))
                    ·
                      refine w_kI e100_149 ?_
                      exact w_ri e100_150 rfl ⟨⟨sc118, ai119, al120, az121, hM122, hK123, hI124, hF133, ⟨by omega, (rws_n hR134 (by omega)), by omega, by omega, by omega, bs_w (bs_n hB135 (by omega)) (by omega)⟩⟩, 2, (by omega), rfl⟩
                  ·
                    refine w_ldA e100_132 (fun _ => rfl) rfl ?_
                    refine w_kB e100_133 rfl ?_
                    refine w_cv e100_135 (by decide) rfl e136 rfl (Nat.le_of_ble_eq_true rfl) (Nat.le_of_ble_eq_true rfl) (Nat.le_of_ble_eq_true rfl) (by decide) (by decide) (c99 hM122 hK123 hI124 (by omega)) (fun o192 v193 hq194 => ?_)
                    obtain ⟨⟨sc195, ai196, al197, az198, hM199, hK200, hI201, hG202, hE203⟩, rfl⟩ := hq194
                    have hs204 : sc195 1 = sc118 1 := hG202.1 1 rfl
                    have hs205 : sc195 14 = sc118 14 := hG202.1 14 rfl
                    have hs206 : sc195 16 = sc118 16 := hG202.1 16 rfl
                    have hs207 : sc195 40 = sc118 40 := hG202.1 40 rfl
                    have hs208 : sc195 41 = sc118 41 := hG202.1 41 rfl
                    have hs209 : sc195 42 = sc118 42 := hG202.1 42 rfl
                    have hF210 : fr [13, 14, 16, 27, 28, 38, 40, 41, 42] [252, 253, 254, 255, 256, 257, 258, 259, 260, 261] 16 70 sc ai al az sc195 ai196 al197 az198 := fr_t hF133 hG202 rfl rfl (by omega)
                    have hR211 := rws_fr hR134 hK123 hG202 rfl rfl rfl (by omega)
                    have hB212 := bs_fr hB135 hK123 hG202 rfl rfl rfl rfl (by omega)
                    refine w_kI e100_138 ?_
                    exact w_ri e100_139 rfl ⟨⟨sc195, ai196, al197, az198, hM199, hK200, hI201, hF210, ⟨by omega, (rws_n hR211 (by omega)), by omega, by omega, by omega, bs_w (bs_n hB212 (by omega)) (by omega)⟩⟩, 0, (by omega), rfl⟩
            ·
              refine w_kI e100_95 ?_
              exact w_ri e100_96 rfl ⟨⟨sc100, ai77, al78, az79, hM101, hK81, hI110, hF109, ⟨by omega, (rws_n hR111 (by omega)), by omega, by omega, by omega, bs_w (bs_n hB112 (by omega)) (by omega)⟩⟩, 2, (by omega), rfl⟩
          ·
            refine w_ldI e100_65 (fun _ => rfl) rfl ?_
            refine w_x e100_66 (fun _ => rfl) ?_
            refine w_cv e100_72 (by decide) rfl e71 rfl (Nat.le_of_ble_eq_true rfl) (Nat.le_of_ble_eq_true rfl) (Nat.le_of_ble_eq_true rfl) (by decide) (by decide) (c93 hM57 hK58 hI59 (by omega) (by omega) (by omega) (bs_w (bs_n hB70 (by omega)) (by omega)) (Or.inl rfl)) (fun o213 v214 hq215 => ?_)
            obtain ⟨⟨sc216, ai217, al218, az219, hM220, hK221, hI222, hG223, hE224⟩, q225, h226, rfl⟩ := hq215
            have hs227 : sc216 1 = sc53 1 := hG223.1 1 rfl
            have hs228 : sc216 14 = sc53 14 := hG223.1 14 rfl
            have hs229 : sc216 16 = sc53 16 := hG223.1 16 rfl
            have hs230 : sc216 40 = sc53 40 := hG223.1 40 rfl
            have hs231 : sc216 42 = sc53 42 := hG223.1 42 rfl
            have hF232 : fr [13, 14, 16, 27, 28, 38, 40, 41, 42] [252, 253, 254, 255, 256, 257, 258, 259, 260, 261] 16 70 sc ai al az sc216 ai217 al218 az219 := fr_t hF68 hG223 rfl rfl (by omega)
            have hR233 := rws_fr hR69 hK58 hG223 rfl rfl rfl (by omega)
            have hB234 := bs_fr hB70 hK58 hG223 rfl rfl rfl rfl (by omega)
            have hb235 := hE224.1
            refine w_stI (j := 4) (A1 := [some (.ref 238), some (.int (vz x1)), some (.int (vz x2)), some (.int (vz (1000 - (sc53 16)))), some (.int (vz q225))]) e100_75 (fun _ => rfl) (by decide) rfl ?_
            refine w_ldA e100_77 (fun _ => rfl) rfl ?_
            refine w_x e100_78 (fun _ => rfl) ?_
            have e236 := tm_o hM220
            refine w_get e100_79 e236 rfl ?_
            refine w_ldA e100_82 (fun _ => rfl) rfl ?_
            refine w_get e100_83 e236 rfl ?_
            refine w_iadd e100_86 ?_
            refine w_put e100_87 e236 (Nat.le_of_ble_eq_true rfl) rfl (fun v239 b237 h238 => ?_)
            obtain ⟨sc240, hd242, hM241⟩ : ∃ z, z = u1 sc216 16 ((sc216 16) + (sc216 41)) ∧ tm z ai217 al218 az219 v0 v239 := ⟨_, rfl, tm_ps 16 hM220 (by omega) b237 h238⟩
            have hs243 : sc240 1 = sc216 1 := by rw [hd242]; exact u1_o (by decide)
            have hs244 : sc240 14 = sc216 14 := by rw [hd242]; exact u1_o (by decide)
            have hs245 : sc240 16 = (sc216 16) + (sc216 41) := by rw [hd242]; exact u1_s
            have hs246 : sc240 40 = sc216 40 := by rw [hd242]; exact u1_o (by decide)
            have hs247 : sc240 41 = sc216 41 := by rw [hd242]; exact u1_o (by decide)
            have hs248 : sc240 42 = sc216 42 := by rw [hd242]; exact u1_o (by decide)
            have hF249 : fr [13, 14, 16, 27, 28, 38, 40, 41, 42] [252, 253, 254, 255, 256, 257, 258, 259, 260, 261] 16 70 sc ai al az sc240 ai217 al218 az219 := fr_s hF232 hd242 rfl
            have hI250 : gi sc240 ai217 al218 az219 := gi_s hI222 hd242 (by decide) (by decide) (by decide)
            have hR251 := rws_fr hR233 hK221 (fr_s (X := [16]) (Y := []) (lo := 1) (hi := 0) (fr_0 _ _ _ _ sc216 ai217 al218 az219) hd242 rfl) rfl rfl rfl (by omega)
            have hB252 := bs_fr hB234 hK221 (fr_s (X := [16]) (Y := []) (lo := 1) (hi := 0) (fr_0 _ _ _ _ sc216 ai217 al218 az219) hd242 rfl) rfl rfl rfl rfl (by omega)
            refine w_ldI e100_90 (fun _ => rfl) rfl ?_
            refine w_if e100_92 (by omega) (fun (h253 : q225 ≠ 0) => ?_) (fun (h253 : q225 = 0) => ?_)
            ·
              refine w_ldA e100_97 (fun _ => rfl) rfl ?_
              refine w_kB e100_98 rfl ?_
              have e254 := tm_o hM241
              refine w_cv e100_100 (by decide) rfl e254 rfl (Nat.le_of_ble_eq_true rfl) (Nat.le_of_ble_eq_true rfl) (Nat.le_of_ble_eq_true rfl) (by decide) (by decide) (c83 hM241 hK221 hI250 (by omega)) (fun o255 v256 hq257 => ?_)
              obtain ⟨⟨sc258, ai259, al260, az261, hM262, hK263, hI264, hG265, hE266⟩, rfl⟩ := hq257
              have hs267 : sc258 1 = sc240 1 := hG265.1 1 rfl
              have hs268 : sc258 14 = sc240 14 := hG265.1 14 rfl
              have hs269 : sc258 16 = sc240 16 := hG265.1 16 rfl
              have hs270 : sc258 40 = sc240 40 := hG265.1 40 rfl
              have hs271 : sc258 41 = sc240 41 := hG265.1 41 rfl
              have hs272 : sc258 42 = sc240 42 := hG265.1 42 rfl
              have hF273 : fr [13, 14, 16, 27, 28, 38, 40, 41, 42] [252, 253, 254, 255, 256, 257, 258, 259, 260, 261] 16 70 sc ai al az sc258 ai259 al260 az261 := fr_t hF249 hG265 rfl rfl (by omega)
              have hR274 := rws_fr hR251 hK221 hG265 rfl rfl rfl (by omega)
              have hB275 := bs_fr hB252 hK221 hG265 rfl rfl rfl rfl (by omega)
              refine w_ldA e100_103 (fun _ => rfl) rfl ?_
              have e276 := tm_o hM262
              refine w_get e100_104 e276 rfl ?_
              refine w_kB e100_107 rfl ?_
              have e277 := tm_i hM262 (a := 242) (n := 72) rfl
              refine w_ald e100_109 e277 (by omega) (by omega) (by decide) ?_
              show vm_Wp _ _ _ 110 _ [.int (vz (ai259 242 (69 : Int).toNat))] _ _
              have hk278 := hK263.1 (69 : Int).toNat
              refine w_if e100_110 (tm_r hM262 242 (69 : Int).toNat) (fun (h279 : ai259 242 (69 : Int).toNat ≤ 0) => ?_) (fun (h279 : 0 < ai259 242 (69 : Int).toNat) => ?_)
              ·
                refine w_iinc (A1 := [some (.ref 238), some (.int (vz x1)), some (.int (vz (x2 + 1))), some (.int (vz (1000 - (sc53 16)))), some (.int (vz q225))]) e100_174 rfl (by decide) rfl ?_
                refine w_x e100_177 (fun _ => rfl) ?_
                exact w_sub (A1 := [some (.ref 238), some (.int (vz x1)), some (.int (vz (x2 + 1))), none, none]) (And.intro rfl (And.intro rfl (And.intro rfl trivial))) ((ih) v256 sc258 ai259 al260 az261 x1 (x2 + 1) hM262 hK263 hI264 hF273 (by omega) (by omega) (bs_w (bs_n hB275 (by omega)) (by omega)) (rws_n hR274 (by omega)) (by omega) (by omega))
              ·
                refine w_ldA e100_113 (fun _ => rfl) rfl ?_
                refine w_kB e100_114 rfl ?_
                refine w_cv e100_116 (by decide) rfl e276 rfl (Nat.le_of_ble_eq_true rfl) (Nat.le_of_ble_eq_true rfl) (Nat.le_of_ble_eq_true rfl) (by decide) (by decide) (c98 hM262 hK263 (by omega) (by omega)) (fun o280 v281 hq282 => ?_)
                obtain ⟨rfl, q283, h284, rfl⟩ := hq282
                refine w_if e100_119 (by omega) (fun (h285 : q283 ≠ 0) => ?_) (fun (h285 : q283 = 0) => ?_)
                ·
                  refine w_iinc (A1 := [some (.ref 238), some (.int (vz x1)), some (.int (vz (x2 + 1))), some (.int (vz (1000 - (sc53 16)))), some (.int (vz q225))]) e100_174 rfl (by decide) rfl ?_
                  refine w_x e100_177 (fun _ => rfl) ?_
                  exact w_sub (A1 := [some (.ref 238), some (.int (vz x1)), some (.int (vz (x2 + 1))), none, none]) (And.intro rfl (And.intro rfl (And.intro rfl trivial))) ((ih) v256 sc258 ai259 al260 az261 x1 (x2 + 1) hM262 hK263 hI264 hF273 (by omega) (by omega) (bs_w (bs_n hB275 (by omega)) (by omega)) (rws_n hR274 (by omega)) (by omega) (by omega))
                ·
                  refine w_ldA e100_122 (fun _ => rfl) rfl ?_
                  refine w_kB e100_123 rfl ?_
                  refine w_cv e100_125 (by decide) rfl e276 rfl (Nat.le_of_ble_eq_true rfl) (Nat.le_of_ble_eq_true rfl) (Nat.le_of_ble_eq_true rfl) (by decide) (by decide) (c86 hM262 hK263 (by omega) hI264.1.1.1) (fun o286 v287 hq288 => ?_)
                  obtain ⟨rfl, rfl⟩ := hq288
                  have hp289 := mpI_bd sc258 ai259 al260 az261 69 hI264.1.1.1
                  show vm_Wp _ _ _ 128 _ [.int (vz (mpI sc258 ai259 al260 az261 69))] _ _
                  refine w_kI e100_128 ?_
                  refine w_ic e100_129 (by omega) (by omega) (fun (h290 : mpI sc258 ai259 al260 az261 69 ≠ -1) => ?_) (fun (h290 : mpI sc258 ai259 al260 az261 69 = -1) => ?_)
                  ·
                    refine w_ldA e100_140 (fun _ => rfl) rfl ?_
                    refine w_get e100_141 e276 rfl ?_
                    refine w_kB e100_144 rfl ?_
                    refine w_ic e100_146 (tm_s hM262 42) (by omega) (fun (h291 : sc258 42 ≠ 40) => ?_) (fun (h291 : sc258 42 = 40) => ?_)
                    ·
                      refine w_ldA e100_151 (fun _ => rfl) rfl ?_
                      refine w_kB e100_152 rfl ?_
                      refine w_kB e100_154 rfl ?_
                      refine w_ldA e100_156 (fun _ => rfl) rfl ?_
                      refine w_get e100_157 e276 rfl ?_
                      refine w_iadd e100_160 ?_
                      refine w_cv e100_161 (by decide) rfl e276 rfl (Nat.le_of_ble_eq_true rfl) (Nat.le_of_ble_eq_true rfl) (Nat.le_of_ble_eq_true rfl) (by decide) (by decide) (k81 hM262 hK263 hI264 (by omega) (by omega) (by omega)) (fun o292 v293 hq294 => ?_)
                      obtain ⟨⟨sc295, ai296, al297, az298, hM299, hK300, hI301, hG302, hE303⟩, rfl⟩ := hq294
                      have hs304 : sc295 1 = sc258 1 := hG302.1 1 rfl
                      have hs305 : sc295 14 = sc258 14 := hG302.1 14 rfl
                      have hs306 : sc295 16 = sc258 16 := hG302.1 16 rfl
                      have hs307 : sc295 40 = sc258 40 := hG302.1 40 rfl
                      have hs308 : sc295 41 = sc258 41 := hG302.1 41 rfl
                      have hs309 : sc295 42 = sc258 42 := hG302.1 42 rfl
                      have hF310 : fr [13, 14, 16, 27, 28, 38, 40, 41, 42] [252, 253, 254, 255, 256, 257, 258, 259, 260, 261] 16 70 sc ai al az sc295 ai296 al297 az298 := fr_t hF273 hG302 rfl rfl (by omega)
                      have hR311 := rws_fr hR274 hK263 hG302 rfl rfl rfl (by omega)
                      have hB312 := bs_fr hB275 hK263 hG302 rfl rfl rfl rfl (by omega)
                      have he314 := hE303.1
                      rw [show 16 + (sc258 42) = 16 + sc_ 42 by omega] at he314
                      have hR313 := rws_add hR311 (by omega)
                      refine w_ldA e100_164 (fun _ => rfl) rfl ?_
                      refine w_x e100_165 (fun _ => rfl) ?_
                      have e315 := tm_o hM299
                      refine w_get e100_166 e315 rfl ?_
                      refine w_kI e100_169 ?_
                      refine w_iadd e100_170 ?_
                      refine w_put e100_171 e315 (Nat.le_of_ble_eq_true rfl) rfl (fun v318 b316 h317 => ?_)
                      obtain ⟨sc319, hd321, hM320⟩ : ∃ z, z = u1 sc295 42 ((sc295 42) + 1) ∧ tm z ai296 al297 az298 v0 v318 := ⟨_, rfl, tm_ps 42 hM299 (by omega) b316 h317⟩
                      have hs322 : sc319 1 = sc295 1 := by rw [hd321]; exact u1_o (by decide)
                      have hs323 : sc319 14 = sc295 14 := by rw [hd321]; exact u1_o (by decide)
                      have hs324 : sc319 16 = sc295 16 := by rw [hd321]; exact u1_o (by decide)
                      have hs325 : sc319 40 = sc295 40 := by rw [hd321]; exact u1_o (by decide)
                      have hs326 : sc319 41 = sc295 41 := by rw [hd321]; exact u1_o (by decide)
                      have hs327 : sc319 42 = (sc295 42) + 1 := by rw [hd321]; exact u1_s
                      have hF328 : fr [13, 14, 16, 27, 28, 38, 40, 41, 42] [252, 253, 254, 255, 256, 257, 258, 259, 260, 261] 16 70 sc ai al az sc319 ai296 al297 az298 := fr_s hF310 hd321 rfl
                      have hI329 : gi sc319 ai296 al297 az298 := gi_s hI301 hd321 (by decide) (by decide) (by decide)
                      have hR330 := rws_fr hR313 hK300 (fr_s (X := [42]) (Y := []) (lo := 1) (hi := 0) (fr_0 _ _ _ _ sc295 ai296 al297 az298) hd321 rfl) rfl rfl rfl (by omega)
                      have hB331 := bs_fr hB312 hK300 (fr_s (X := [42]) (Y := []) (lo := 1) (hi := 0) (fr_0 _ _ _ _ sc295 ai296 al297 az298) hd321 rfl) rfl rfl rfl rfl (by omega)
                      refine w_iinc (A1 := [some (.ref 238), some (.int (vz x1)), some (.int (vz (x2 + 1))), some (.int (vz (1000 - (sc53 16)))), some (.int (vz q225))]) e100_174 rfl (by decide) rfl ?_
                      refine w_x e100_177 (fun _ => rfl) ?_
                      exact w_sub (A1 := [some (.ref 238), some (.int (vz x1)), some (.int (vz (x2 + 1))), none, none]) (And.intro rfl (And.intro rfl (And.intro rfl trivial))) ((ih) v318 sc319 ai296 al297 az298 x1 (x2 + 1) hM320 hK300 hI329 hF328 (by omega) (by omega) (bs_w (bs_n hB331 (by omega)) (by omega)) (rws_n hR330 (by omega)) (by omega) (by omega))
                    ·
                      refine w_kI e100_149 ?_
                      exact w_ri e100_150 rfl ⟨⟨sc258, ai259, al260, az261, hM262, hK263, hI264, hF273, ⟨by omega, (rws_n hR274 (by omega)), by omega, by omega, by omega, bs_w (bs_n hB275 (by omega)) (by omega)⟩⟩, 2, (by omega), rfl⟩
                  ·
                    refine w_ldA e100_132 (fun _ => rfl) rfl ?_
                    refine w_kB e100_133 rfl ?_
                    refine w_cv e100_135 (by decide) rfl e276 rfl (Nat.le_of_ble_eq_true rfl) (Nat.le_of_ble_eq_true rfl) (Nat.le_of_ble_eq_true rfl) (by decide) (by decide) (c99 hM262 hK263 hI264 (by omega)) (fun o332 v333 hq334 => ?_)
                    obtain ⟨⟨sc335, ai336, al337, az338, hM339, hK340, hI341, hG342, hE343⟩, rfl⟩ := hq334
                    have hs344 : sc335 1 = sc258 1 := hG342.1 1 rfl
                    have hs345 : sc335 14 = sc258 14 := hG342.1 14 rfl
                    have hs346 : sc335 16 = sc258 16 := hG342.1 16 rfl
                    have hs347 : sc335 40 = sc258 40 := hG342.1 40 rfl
                    have hs348 : sc335 41 = sc258 41 := hG342.1 41 rfl
                    have hs349 : sc335 42 = sc258 42 := hG342.1 42 rfl
                    have hF350 : fr [13, 14, 16, 27, 28, 38, 40, 41, 42] [252, 253, 254, 255, 256, 257, 258, 259, 260, 261] 16 70 sc ai al az sc335 ai336 al337 az338 := fr_t hF273 hG342 rfl rfl (by omega)
                    have hR351 := rws_fr hR274 hK263 hG342 rfl rfl rfl (by omega)
                    have hB352 := bs_fr hB275 hK263 hG342 rfl rfl rfl rfl (by omega)
                    refine w_kI e100_138 ?_
                    exact w_ri e100_139 rfl ⟨⟨sc335, ai336, al337, az338, hM339, hK340, hI341, hF350, ⟨by omega, (rws_n hR351 (by omega)), by omega, by omega, by omega, bs_w (bs_n hB352 (by omega)) (by omega)⟩⟩, 0, (by omega), rfl⟩
            ·
              refine w_kI e100_95 ?_
              exact w_ri e100_96 rfl ⟨⟨sc240, ai217, al218, az219, hM241, hK221, hI250, hF249, ⟨by omega, (rws_n hR251 (by omega)), by omega, by omega, by omega, bs_w (bs_n hB252 (by omega)) (by omega)⟩⟩, 2, (by omega), rfl⟩
set_option maxRecDepth 100000 in
set_option maxHeartbeats 4000000 in
theorem c100 {sc : Nat → Int} {ai : Nat → Nat → Int} {al : Nat → Nat → Int64} {az : Nat → Nat → Int32} {v0 vh : vm_H} (hM : tm sc ai al az v0 vh) (hK : tmok ai) (hI : gi sc ai al az) (hr : 0 ≤ sc 42 ∧ sc 42 ≤ 40) (hR : rws sc ai al az (sc 42)) (h16 : 0 ≤ sc 16 ∧ sc 16 ≤ 1000) (h14 : 0 ≤ sc 14 ∧ sc 14 < 12) : vm_Rp 6 157 100 [.ref 238] vh (fun r v1 => (∃ (sc1 : Nat → Int) (ai1 : Nat → Nat → Int) (al1 : Nat → Nat → Int64) (az1 : Nat → Nat → Int32), tm sc1 ai1 al1 az1 v0 v1 ∧ tmok ai1 ∧ gi sc1 ai1 al1 az1 ∧ fr [13, 14, 16, 27, 28, 38, 40, 41, 42] [252, 253, 254, 255, 256, 257, 258, 259, 260, 261] 16 70 sc ai al az sc1 ai1 al1 az1 ∧ ((0 ≤ sc1 42 ∧ sc1 42 ≤ 40) ∧ rws sc1 ai1 al1 az1 (sc1 42) ∧ (0 ≤ sc1 16 ∧ sc1 16 ≤ 1000) ∧ sc1 14 = sc 14 + 1 ∧ (0 ≤ sc1 40 ∧ sc1 40 ≤ 8) ∧ bs sc1 ai1 al1 az1 (sc1 40) 56)) ∧ ∃ q : Int, (0 ≤ q ∧ q ≤ 3) ∧ r = some (.int (vz q))) := by
  have hF0 : fr [13, 14, 16, 27, 28, 38, 40, 41, 42] [252, 253, 254, 255, 256, 257, 258, 259, 260, 261] 16 70 sc ai al az sc ai al az := fr_0 _ _ _ _ _ _ _ _
  refine w_in (m := 4) ?_
  show vm_Wp _ _ _ 0 [some (.ref 238), none, none, none, none] [] _ _
  refine w_ldA e100_0 (fun _ => rfl) rfl ?_
  refine w_x e100_1 (fun _ => rfl) ?_
  have e1 := tm_o hM
  refine w_get e100_2 e1 rfl ?_
  refine w_kI e100_5 ?_
  refine w_iadd e100_6 ?_
  refine w_put e100_7 e1 (Nat.le_of_ble_eq_true rfl) rfl (fun v4 b2 h3 => ?_)
  obtain ⟨sc5, hd7, hM6⟩ : ∃ z, z = u1 sc 14 ((sc 14) + 1) ∧ tm z ai al az v0 v4 := ⟨_, rfl, tm_ps 14 hM (by omega) b2 h3⟩
  have hs8 : sc5 1 = sc 1 := by rw [hd7]; exact u1_o (by decide)
  have hs9 : sc5 14 = (sc 14) + 1 := by rw [hd7]; exact u1_s
  have hs10 : sc5 16 = sc 16 := by rw [hd7]; exact u1_o (by decide)
  have hs11 : sc5 40 = sc 40 := by rw [hd7]; exact u1_o (by decide)
  have hs12 : sc5 41 = sc 41 := by rw [hd7]; exact u1_o (by decide)
  have hs13 : sc5 42 = sc 42 := by rw [hd7]; exact u1_o (by decide)
  have hF14 : fr [13, 14, 16, 27, 28, 38, 40, 41, 42] [252, 253, 254, 255, 256, 257, 258, 259, 260, 261] 16 70 sc ai al az sc5 ai al az := fr_s hF0 hd7 rfl
  have hI15 : gi sc5 ai al az := gi_s hI hd7 (by decide) (by decide) (by decide)
  have hR16 := rws_fr hR hK (fr_s (X := [14]) (Y := []) (lo := 1) (hi := 0) (fr_0 _ _ _ _ sc ai al az) hd7 rfl) rfl rfl rfl (by omega)
  refine w_ldA e100_10 (fun _ => rfl) rfl ?_
  have e17 := tm_o hM6
  refine w_cv e100_11 (by decide) rfl e17 rfl (Nat.le_of_ble_eq_true rfl) (Nat.le_of_ble_eq_true rfl) (Nat.le_of_ble_eq_true rfl) (by decide) (by decide) (c96 hM6 hK hI15 (by omega) (rws_n hR16 (by omega))) (fun o18 v19 hq20 => ?_)
  obtain ⟨⟨sc21, ai22, al23, az24, hM25, hK26, hI27, hG28, hE29⟩, rfl⟩ := hq20
  have hs30 : sc21 1 = sc5 1 := hG28.1 1 rfl
  have hs31 : sc21 14 = sc5 14 := hG28.1 14 rfl
  have hs32 : sc21 16 = sc5 16 := hG28.1 16 rfl
  have hs33 : sc21 41 = sc5 41 := hG28.1 41 rfl
  have hs34 : sc21 42 = sc5 42 := hG28.1 42 rfl
  have hF35 : fr [13, 14, 16, 27, 28, 38, 40, 41, 42] [252, 253, 254, 255, 256, 257, 258, 259, 260, 261] 16 70 sc ai al az sc21 ai22 al23 az24 := fr_t hF14 hG28 rfl rfl (by omega)
  have hR36 := rws_fr hR16 hK hG28 rfl rfl rfl (by omega)
  have hB37 := hE29.2
  have hb38 := hE29.1
  refine w_ldA e100_14 (fun _ => rfl) rfl ?_
  have e39 := tm_o hM25
  refine w_get e100_15 e39 rfl ?_
  refine w_stI (j := 1) (A1 := [some (.ref 238), some (.int (vz (sc21 42))), none, none, none]) e100_18 (fun _ => rfl) (by decide) rfl ?_
  refine w_kI e100_19 ?_
  refine w_stI (j := 2) (A1 := [some (.ref 238), some (.int (vz (sc21 42))), some (.int (vz 0)), none, none]) e100_20 (fun _ => rfl) (by decide) rfl ?_
  exact w_sub (A1 := [some (.ref 238), some (.int (vz (sc21 42))), some (.int (vz 0)), none, none]) (And.intro rfl (And.intro rfl (And.intro rfl trivial))) (((c100_L (sc := sc) (ai := ai) (al := al) (az := az) (v0 := v0) hK hI hr hR h16 h14 _)) v19 sc21 ai22 al23 az24 (sc21 42) 0 hM25 hK26 hI27 hF35 (by omega) (by omega) (bs_w (bs_n hB37 (by omega)) (by omega)) (rws_n hR36 (by omega)) (by omega) (Nat.lt_succ_self _))
