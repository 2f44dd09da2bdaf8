set_option maxRecDepth 100000 in
set_option maxHeartbeats 4000000 in
theorem c111 {sc : Nat → Int} {ai : Nat → Nat → Int} {al : Nat → Nat → Int64} {az : Nat → Nat → Int32} {v0 vh : vm_H} (hM : tm sc ai al az v0 vh) (hK : tmok ai) {i1 : Int} (hi_1 : 0 ≤ i1 ∧ i1 < 8) (hn : 0 ≤ sc 1 ∧ sc 1 ≤ 8) (hm : 0 ≤ mpI sc ai al az (58 + i1)) : vm_Rp 3 69 111 [.ref 238, .int (vz i1)] vh (fun r v1 => vh = v1 ∧ ∃ q : Int, (0 ≤ q ∧ q < 8) ∧ r = some (.int (vz q))) := by
  refine w_in (m := 0) ?_
  show vm_Wp _ _ _ 0 [some (.ref 238), some (.int (vz i1))] [] _ _
  refine w_ldA e111_0 (fun _ => rfl) rfl ?_
  have e1 := tm_o hM
  refine w_get e111_1 e1 rfl ?_
  refine w_ldA e111_4 (fun _ => rfl) rfl ?_
  refine w_kB e111_5 rfl ?_
  refine w_ldI e111_7 (fun _ => rfl) rfl ?_
  refine w_iadd e111_8 ?_
  refine w_cv e111_9 (by decide) rfl e1 rfl (Nat.le_of_ble_eq_true rfl) (Nat.le_of_ble_eq_true rfl) (Nat.le_of_ble_eq_true rfl) (by decide) (by decide) (c86 hM hK (by omega) hn) (fun o2 v3 hq4 => ?_)
  obtain ⟨rfl, rfl⟩ := hq4
  have hp5 := mpI_bd sc ai al az (58 + i1) hn
  show vm_Wp _ _ _ 12 _ [.int (vz (mpI sc ai al az (58 + i1))), .ref 240] _ _
  have e6 := tm_i hM (a := 240) (n := 8) rfl
  refine w_ald e111_12 e6 (by omega) (by omega) (by decide) ?_
  show vm_Wp _ _ _ 13 _ [.int (vz (ai 240 (mpI sc ai al az (58 + i1)).toNat))] _ _
  have hk7 := hK.2 (mpI sc ai al az (58 + i1)).toNat
  exact w_ri e111_13 rfl ⟨rfl, ai 240 (mpI sc ai al az (58 + i1)).toNat, (by omega), rfl⟩
set_option maxRecDepth 100000 in
set_option maxHeartbeats 4000000 in
theorem c105 {sc : Nat → Int} {ai : Nat → Nat → Int} {al : Nat → Nat → Int64} {az : Nat → Nat → Int32} {v0 vh : vm_H} (hM : tm sc ai al az v0 vh) (hK : tmok ai) (hI : gi sc ai al az) {i1 : Int} (hi_1 : 0 ≤ i1 ∧ i1 ≤ 1) (hR : ri2 sc ai al az) : vm_Rp 1 20 105 [.ref 238, .int (vz i1)] vh (fun r v1 => (∃ (sc1 : Nat → Int) (ai1 : Nat → Nat → Int) (al1 : Nat → Nat → Int64) (az1 : Nat → Nat → Int32), tm sc1 ai1 al1 az1 v0 v1 ∧ tmok ai1 ∧ gi sc1 ai1 al1 az1 ∧ fr [0, 1, 10, 11, 12, 18] [239, 240] 1 0 sc ai al az sc1 ai1 al1 az1 ∧ (ri2 sc1 ai1 al1 az1 ∧ ((sc 1 = 8 ∧ sc1 1 = sc 1) ∨ (sc 1 ≠ 8 ∧ sc1 1 = sc 1 + 1)))) ∧ ∃ q : Int, ((sc 1 = 8 ∧ q = -1) ∨ (sc 1 ≠ 8 ∧ q = sc 1)) ∧ r = some (.int (vz q))) := by
  have hF0 : fr [0, 1, 10, 11, 12, 18] [239, 240] 1 0 sc ai al az sc ai al az := fr_0 _ _ _ _ _ _ _ _
  have hn8 := hI.1.1
  refine w_in (m := 0) ?_
  show vm_Wp _ _ _ 0 [some (.ref 238), some (.int (vz i1))] [] _ _
  refine w_ldA e105_0 (fun _ => rfl) rfl ?_
  refine w_kI e105_1 ?_
  have e1 := tm_o hM
  refine w_put e105_2 e1 (Nat.le_of_ble_eq_true rfl) rfl (fun v4 b2 h3 => ?_)
  obtain ⟨sc5, hd7, hM6⟩ : ∃ z, z = u1 sc 0 (0) ∧ tm z ai al az v0 v4 := ⟨_, rfl, tm_ps 0 hM (by omega) b2 h3⟩
  have hs8 : sc5 0 = 0 := by rw [hd7]; exact u1_s
  have hs9 : sc5 1 = sc 1 := by rw [hd7]; exact u1_o (by decide)
  have hs10 : sc5 4 = sc 4 := by rw [hd7]; exact u1_o (by decide)
  have hs11 : sc5 11 = sc 11 := by rw [hd7]; exact u1_o (by decide)
  have hs12 : sc5 18 = sc 18 := by rw [hd7]; exact u1_o (by decide)
  have hs13 : sc5 38 = sc 38 := by rw [hd7]; exact u1_o (by decide)
  have hF14 : fr [0, 1, 10, 11, 12, 18] [239, 240] 1 0 sc ai al az sc5 ai al az := fr_s hF0 hd7 rfl
  have hI15 : gi sc5 ai al az := gi_s hI hd7 (by decide) (by decide) (by decide)
  have hR16 := ri2_fr hR hK (fr_s (X := [0]) (Y := []) (lo := 1) (hi := 0) (fr_0 _ _ _ _ sc ai al az) hd7 rfl) rfl rfl rfl rfl rfl rfl rfl rfl rfl (by omega)
  have hS17 := sjk_fr hR.1 hK (fr_s (X := [0]) (Y := []) (lo := 1) (hi := 0) (fr_0 _ _ _ _ sc ai al az) hd7 rfl) rfl rfl
  refine w_ldA e105_5 (fun _ => rfl) rfl ?_
  have e18 := tm_o hM6
  refine w_get e105_6 e18 rfl ?_
  refine w_kB e105_9 rfl ?_
  refine w_ic e105_11 (tm_s hM6 1) (by omega) (fun (h19 : sc5 1 ≠ 8) => ?_) (fun (h19 : sc5 1 = 8) => ?_)
  ·
    refine w_ldA e105_16 (fun _ => rfl) rfl ?_
    refine w_get e105_17 e18 rfl ?_
    refine w_ldA e105_20 (fun _ => rfl) rfl ?_
    refine w_get e105_21 e18 rfl ?_
    refine w_ldI e105_24 (fun _ => rfl) rfl ?_
    have e20 := tm_z hM6 (a := 239) (n := 8) rfl
    refine w_zst e105_25 e20 (by omega) (by omega) (by decide) (fun v23 b21 h22 => ?_)
    obtain ⟨az24, hd26, hM25⟩ : ∃ z, z = u2 az 239 (sc5 1).toNat (vz i1 &&& 1) ∧ tm sc5 ai al z v0 v23 := ⟨_, rfl, tm_pz hM6 rfl b21 h22⟩
    have hF27 : fr [0, 1, 10, 11, 12, 18] [239, 240] 1 0 sc ai al az sc5 ai al az24 := fr_z hF14 hd26 rfl
    have hI28 : gi sc5 ai al az24 := gi_z hI15 hd26 (by decide)
    have hS29 := sjk_fr hS17 hK (fr_z (X := []) (Y := [239]) (lo := 1) (hi := 0) (fr_0 _ _ _ _ sc5 ai al az) hd26 rfl) rfl rfl
    refine w_ldA e105_26 (fun _ => rfl) rfl ?_
    have e30 := tm_o hM25
    refine w_get e105_27 e30 rfl ?_
    refine w_ldA e105_30 (fun _ => rfl) rfl ?_
    refine w_get e105_31 e30 rfl ?_
    refine w_ldA e105_34 (fun _ => rfl) rfl ?_
    refine w_get e105_35 e30 rfl ?_
    have e31 := tm_i hM25 (a := 240) (n := 8) rfl
    refine w_ast e105_38 e31 (by omega) (by omega) (by decide) (by decide) (fun v34 b32 h33 => ?_)
    obtain ⟨ai35, hd37, hM36⟩ : ∃ z, z = u2 ai 240 (sc5 1).toNat (sc5 1) ∧ tm sc5 z al az24 v0 v34 := ⟨_, rfl, tm_pi hM25 rfl (tm_s hM25 1) b32 h33⟩
    have hK38 : tmok ai35 := by rw [hd37]; exact tmok_o hK (by omega)
    have hF39 : fr [0, 1, 10, 11, 12, 18] [239, 240] 1 0 sc ai al az sc5 ai35 al az24 := fr_i hF27 hd37 rfl (by decide)
    have hI40 : gi sc5 ai35 al az24 := gi_i hI28 hd37 (by decide)
    refine w_ldA e105_39 (fun _ => rfl) rfl ?_
    refine w_x e105_40 (fun _ => rfl) ?_
    have e41 := tm_o hM36
    refine w_get e105_41 e41 rfl ?_
    refine w_kI e105_44 ?_
    refine w_iadd e105_45 ?_
    refine w_put e105_46 e41 (Nat.le_of_ble_eq_true rfl) rfl (fun v44 b42 h43 => ?_)
    obtain ⟨sc45, hd47, hM46⟩ : ∃ z, z = u1 sc5 1 ((sc5 1) + 1) ∧ tm z ai35 al az24 v0 v44 := ⟨_, rfl, tm_ps 1 hM36 (by omega) b42 h43⟩
    have hs48 : sc45 0 = sc5 0 := by rw [hd47]; exact u1_o (by decide)
    have hs49 : sc45 1 = (sc5 1) + 1 := by rw [hd47]; exact u1_s
    have hs50 : sc45 4 = sc5 4 := by rw [hd47]; exact u1_o (by decide)
    have hs51 : sc45 11 = sc5 11 := by rw [hd47]; exact u1_o (by decide)
    have hs52 : sc45 18 = sc5 18 := by rw [hd47]; exact u1_o (by decide)
    have hs53 : sc45 38 = sc5 38 := by rw [hd47]; exact u1_o (by decide)
    have hF54 : fr [0, 1, 10, 11, 12, 18] [239, 240] 1 0 sc ai al az sc45 ai35 al az24 := fr_s hF39 hd47 rfl
    have hI55 : gi sc45 ai35 al az24 := gi_v hI40 hd47 (by omega)
    have hS56 := sj_add hS29 (by omega) hd37 hd47
    refine w_ldA e105_49 (fun _ => rfl) rfl ?_
    have e57 := tm_o hM46
    refine w_cv e105_50 (by decide) rfl e57 rfl (Nat.le_of_ble_eq_true rfl) (Nat.le_of_ble_eq_true rfl) (Nat.le_of_ble_eq_true rfl) (by decide) (by decide) (k101 hM46 hK38 hI55) (fun o58 v59 hq60 => ?_)
    obtain ⟨⟨sc61, hM65, hI67, hG68, hE69⟩, rfl⟩ := hq60
    have hs70 : sc61 0 = sc45 0 := hG68.1 0 rfl
    have hs71 : sc61 1 = sc45 1 := hG68.1 1 rfl
    have hs72 : sc61 4 = sc45 4 := hG68.1 4 rfl
    have hs73 : sc61 38 = sc45 38 := hG68.1 38 rfl
    have hF74 : fr [0, 1, 10, 11, 12, 18] [239, 240] 1 0 sc ai al az sc61 ai35 al az24 := fr_t hF54 hG68 rfl rfl (by omega)
    have hS75 := sjk_fr hS56 hK38 hG68 rfl rfl
    have hf76 := hE69.1
    have hf77 := hE69.2
    have hR78 : ri2 sc61 ai35 al az24 := ri2_0 hS75 (by omega) (by omega)
    refine w_ldA e105_53 (fun _ => rfl) rfl ?_
    have e79 := tm_o hM65
    refine w_get e105_54 e79 rfl ?_
    refine w_kI e105_57 ?_
    refine w_isub e105_58 ?_
    exact w_ri e105_59 rfl ⟨⟨sc61, ai35, al, az24, hM65, hK38, hI67, hF74, ⟨hR78, by omega⟩⟩, (sc61 1) - 1, (by omega), rfl⟩
  ·
    refine w_kI e105_14 ?_
    exact w_ri e105_15 rfl ⟨⟨sc5, ai, al, az, hM6, hK, hI15, hF14, ⟨hR16, by omega⟩⟩, -1, (by omega), rfl⟩
set_option maxRecDepth 100000 in
set_option maxHeartbeats 4000000 in
theorem c106_L {sc : Nat → Int} {ai : Nat → Nat → Int} {al : Nat → Nat → Int64} {az : Nat → Nat → Int32} {v0 : vm_H} (hK0 : tmok ai) (hI : gi sc ai al az) {i1 : Int} (hi_1 : -2147483648 ≤ i1 ∧ i1 < 2147483648) {i2 : Int} (hi_2 : -2147483648 ≤ i2 ∧ i2 < 2147483648) (hR : ri2 sc ai al az) : ∀ N : Nat, (∀ (vh : vm_H) (sc_ : Nat → Int) (x3 : Int), (tm sc_ ai al az v0 vh) → (tmok ai) → (gi sc_ ai al az) → (fr [0, 10, 11, 12, 18] [240] 0 68 sc ai al az sc_ ai al az) → (0 ≤ x3 ∧ x3 < sc 1) → (ri2 sc_ ai al az) → (∃ j : Nat, x3 ≤ (j : Int) ∧ (j : Int) < sc 1 ∧ ai 240 j = i2) → ((sc_ 1 = sc 1 ∧ sc_ 4 = sc 4) ∧ (0 ≤ i1 ∧ i1 < sc 1) ∧ (0 ≤ i2 ∧ i2 < sc 1)) → ((2000 + 8 - x3 : Int).toNat < N) → vm_Wp 3 77 106 33 [some (.ref 238), some (.int (vz i1)), some (.int (vz i2)), some (.int (vz x3)), none] [] vh (vq_P 106 (fun r v1 => (∃ (sc1 : Nat → Int) (ai1 : Nat → Nat → Int) (al1 : Nat → Nat → Int64) (az1 : Nat → Nat → Int32), tm sc1 ai1 al1 az1 v0 v1 ∧ tmok ai1 ∧ gi sc1 ai1 al1 az1 ∧ fr [0, 10, 11, 12, 18] [240] 0 68 sc ai al az sc1 ai1 al1 az1 ∧ (ri2 sc1 ai1 al1 az1)) ∧ ∃ q : Int, ((0 ≤ q ∧ q ≤ 1) ∧ (q = 1 ↔ (0 ≤ i2 ∧ i2 < sc 1 ∧ 0 ≤ i1 ∧ i1 < sc 1))) ∧ r = some (.int (vz q))))) ∧ (∀ (vh : vm_H) (sc_ : Nat → Int) (ai_ : Nat → Nat → Int) (x3 : Int), (tm sc_ ai_ al az v0 vh) → (tmok ai_) → (gi sc_ ai_ al az) → (fr [0, 10, 11, 12, 18] [240] 0 68 sc ai al az sc_ ai_ al az) → (0 ≤ x3 ∧ x3 < sc 1) → (hol ai_ (sc 1) i2 x3) → ((sc_ 1 = sc 1 ∧ sc_ 4 = sc 4) ∧ (0 ≤ i1 ∧ i1 < sc 1) ∧ (0 ≤ i2 ∧ i2 < sc 1)) → ((1000 + 8 - x3 : Int).toNat < N) → vm_Wp 3 77 106 56 [some (.ref 238), some (.int (vz i1)), some (.int (vz i2)), some (.int (vz x3)), none] [] vh (vq_P 106 (fun r v1 => (∃ (sc1 : Nat → Int) (ai1 : Nat → Nat → Int) (al1 : Nat → Nat → Int64) (az1 : Nat → Nat → Int32), tm sc1 ai1 al1 az1 v0 v1 ∧ tmok ai1 ∧ gi sc1 ai1 al1 az1 ∧ fr [0, 10, 11, 12, 18] [240] 0 68 sc ai al az sc1 ai1 al1 az1 ∧ (ri2 sc1 ai1 al1 az1)) ∧ ∃ q : Int, ((0 ≤ q ∧ q ≤ 1) ∧ (q = 1 ↔ (0 ≤ i2 ∧ i2 < sc 1 ∧ 0 ≤ i1 ∧ i1 < sc 1))) ∧ r = some (.int (vz q))))) ∧ (∀ (vh : vm_H) (sc_ : Nat → Int) (ai_ : Nat → Nat → Int) (x3 : Int), (tm sc_ ai_ al az v0 vh) → (tmok ai_) → (gi sc_ ai_ al az) → (fr [0, 10, 11, 12, 18] [240] 0 68 sc ai al az sc_ ai_ al az) → (i1 ≤ x3 ∧ x3 < sc 1) → (hol ai_ (sc 1) i2 x3) → ((sc_ 1 = sc 1 ∧ sc_ 4 = sc 4) ∧ (0 ≤ i1 ∧ i1 < sc 1) ∧ (0 ≤ i2 ∧ i2 < sc 1)) → ((100 + x3 : Int).toNat < N) → vm_Wp 3 77 106 81 [some (.ref 238), some (.int (vz i1)), some (.int (vz i2)), some (.int (vz x3)), none] [] vh (vq_P 106 (fun r v1 => (∃ (sc1 : Nat → Int) (ai1 : Nat → Nat → Int) (al1 : Nat → Nat → Int64) (az1 : Nat → Nat → Int32), tm sc1 ai1 al1 az1 v0 v1 ∧ tmok ai1 ∧ gi sc1 ai1 al1 az1 ∧ fr [0, 10, 11, 12, 18] [240] 0 68 sc ai al az sc1 ai1 al1 az1 ∧ (ri2 sc1 ai1 al1 az1)) ∧ ∃ q : Int, ((0 ≤ q ∧ q ≤ 1) ∧ (q = 1 ↔ (0 ≤ i2 ∧ i2 < sc 1 ∧ 0 ≤ i1 ∧ i1 < sc 1))) ∧ r = some (.int (vz q))))) ∧ (∀ (vh : vm_H) (sc_ : Nat → Int) (ai_ : Nat → Nat → Int) (al_ : Nat → Nat → Int64) (az_ : Nat → Nat → Int32) (x3 : Int) (x4 : Int), (tm sc_ ai_ al_ az_ v0 vh) → (tmok ai_) → (gi sc_ ai_ al_ az_) → (fr [0, 10, 11, 12, 18] [240] 0 68 sc ai al az sc_ ai_ al_ az_) → (-2147483648 ≤ x3 ∧ x3 < 2147483648) → (0 ≤ x4 ∧ x4 ≤ 16) → (ri2 sc_ ai_ al_ az_) → ((sc_ 1 = sc 1 ∧ sc_ 4 = sc 4) ∧ (0 ≤ i1 ∧ i1 < sc 1) ∧ (0 ≤ i2 ∧ i2 < sc 1)) → ((16 - x4 : Int).toNat < N) → vm_Wp 3 77 106 120 [some (.ref 238), some (.int (vz i1)), some (.int (vz i2)), some (.int (vz x3)), some (.int (vz x4))] [] vh (vq_P 106 (fun r v1 => (∃ (sc1 : Nat → Int) (ai1 : Nat → Nat → Int) (al1 : Nat → Nat → Int64) (az1 : Nat → Nat → Int32), tm sc1 ai1 al1 az1 v0 v1 ∧ tmok ai1 ∧ gi sc1 ai1 al1 az1 ∧ fr [0, 10, 11, 12, 18] [240] 0 68 sc ai al az sc1 ai1 al1 az1 ∧ (ri2 sc1 ai1 al1 az1)) ∧ ∃ q : Int, ((0 ≤ q ∧ q ≤ 1) ∧ (q = 1 ↔ (0 ≤ i2 ∧ i2 < sc 1 ∧ 0 ≤ i1 ∧ i1 < sc 1))) ∧ r = some (.int (vz q))))) := by
  have hF0 : fr [0, 10, 11, 12, 18] [240] 0 68 sc ai al az sc ai al az := fr_0 _ _ _ _ _ _ _ _
  intro N
  induction N with
  | zero => exact ⟨by intros; omega, by intros; omega, by intros; omega, by intros; omega⟩
  | succ N ih =>
    refine ⟨?_, ?_, ?_, ?_⟩
    ·
      intro vh sc_ x3 hM hK hJ hF hx3 hi0 hi1 hi2 hN
      obtain ⟨jj, hj1, hj2, hj3⟩ := hi1
      have hn8 := hJ.1.1
      refine w_ldA e106_33 (fun _ => rfl) rfl ?_
      have e23 := tm_o hM
      refine w_get e106_34 e23 rfl ?_
      refine w_ldI e106_37 (fun _ => rfl) rfl ?_
      have e24 := tm_i hM (a := 240) (n := 8) rfl
      refine w_ald e106_38 e24 (by omega) (by omega) (by decide) ?_
      show vm_Wp _ _ _ 39 _ [.int (vz (ai 240 (x3).toNat))] _ _
      have hk25 := hK.2 (x3).toNat
      refine w_ldI e106_39 (fun _ => rfl) rfl ?_
      refine w_ic e106_40 (tm_r hM 240 (x3).toNat) hi_2 (fun (h26 : ai 240 (x3).toNat = i2) => ?_) (fun (h26 : ai 240 (x3).toNat ≠ i2) => ?_)
      ·
        refine w_ldI e106_49 (fun _ => rfl) rfl ?_
        refine w_ldI e106_50 (fun _ => rfl) rfl ?_
        refine w_ic e106_51 (by omega) hi_1 (fun (h27 : x3 ≠ i1) => ?_) (fun (h27 : x3 = i1) => ?_)
        ·
          exact w_sub (A1 := [some (.ref 238), some (.int (vz i1)), some (.int (vz i2)), some (.int (vz x3)), none]) (And.intro rfl (And.intro rfl (And.intro rfl (And.intro rfl trivial)))) ((ih.2.1) vh sc_ ai x3 hM hK hJ hF (by omega) (hol_n (hol_0 hi0.1 (by omega) h26) (by omega)) (by omega) (by omega))
        ·
          refine w_kI e106_54 ?_
          exact w_rz e106_55 rfl (by omega) ⟨⟨sc_, ai, al, az, hM, hK, hJ, hF, hi0⟩, 1, (by omega), rfl⟩
      ·
        have hne28 : (x3).toNat ≠ jj := fun e => h26 (by rw [e]; exact hj3)
        refine w_iinc (A1 := [some (.ref 238), some (.int (vz i1)), some (.int (vz i2)), some (.int (vz (x3 + 1))), none]) e106_43 rfl (by decide) rfl ?_
        refine w_x e106_46 (fun _ => rfl) ?_
        exact w_sub (A1 := [some (.ref 238), some (.int (vz i1)), some (.int (vz i2)), some (.int (vz (x3 + 1))), none]) (And.intro rfl (And.intro rfl (And.intro rfl (And.intro rfl trivial)))) ((ih.1) vh sc_ (x3 + 1) hM hK hJ hF (by omega) hi0 ⟨jj, by omega, hj2, hj3⟩ (by omega) (by omega))
    ·
      intro vh sc_ ai_ x3 hM hK hJ hF hx3 hi0 hi1 hN
      have hn8 := hJ.1.1
      refine w_ldI e106_56 (fun _ => rfl) rfl ?_
      refine w_ldI e106_57 (fun _ => rfl) rfl ?_
      refine w_ic e106_58 (by omega) hi_1 (fun (h29 : i1 ≤ x3) => ?_) (fun (h29 : x3 < i1) => ?_)
      ·
        exact w_sub (A1 := [some (.ref 238), some (.int (vz i1)), some (.int (vz i2)), some (.int (vz x3)), none]) (And.intro rfl (And.intro rfl (And.intro rfl (And.intro rfl trivial)))) ((ih.2.2.1) vh sc_ ai_ x3 hM hK hJ hF (by omega) hi0 (by omega) (by omega))
      ·
        refine w_ldA e106_61 (fun _ => rfl) rfl ?_
        have e30 := tm_o hM
        refine w_get e106_62 e30 rfl ?_
        refine w_ldI e106_65 (fun _ => rfl) rfl ?_
        refine w_ldA e106_66 (fun _ => rfl) rfl ?_
        refine w_get e106_67 e30 rfl ?_
        refine w_ldI e106_70 (fun _ => rfl) rfl ?_
        refine w_kI e106_71 ?_
        refine w_iadd e106_72 ?_
        have e31 := tm_i hM (a := 240) (n := 8) rfl
        refine w_ald e106_73 e31 (by omega) (by omega) (by decide) ?_
        show vm_Wp _ _ _ 74 _ [.int (vz (ai_ 240 (x3 + 1).toNat)), .int (vz x3), .ref 240] _ _
        have hk32 := hK.2 (x3 + 1).toNat
        refine w_ast e106_74 e31 (by omega) (by omega) (by decide) (by decide) (fun v35 b33 h34 => ?_)
        obtain ⟨ai36, hd38, hM37⟩ : ∃ z, z = u2 ai_ 240 (x3).toNat (ai_ 240 (x3 + 1).toNat) ∧ tm sc_ z al az v0 v35 := ⟨_, rfl, tm_pi hM rfl (tm_r hM 240 (x3 + 1).toNat) b33 h34⟩
        have hK39 : tmok ai36 := by rw [hd38]; exact tmok_o hK (by omega)
        have hF40 : fr [0, 10, 11, 12, 18] [240] 0 68 sc ai al az sc_ ai36 al az := fr_i hF hd38 rfl (by decide)
        have hI41 : gi sc_ ai36 al az := gi_i hJ hd38 (by decide)
        refine w_iinc (A1 := [some (.ref 238), some (.int (vz i1)), some (.int (vz i2)), some (.int (vz (x3 + 1))), none]) e106_75 rfl (by decide) rfl ?_
        refine w_x e106_78 (fun _ => rfl) ?_
        exact w_sub (A1 := [some (.ref 238), some (.int (vz i1)), some (.int (vz i2)), some (.int (vz (x3 + 1))), none]) (And.intro rfl (And.intro rfl (And.intro rfl (And.intro rfl trivial)))) ((ih.2.1) v35 sc_ ai36 (x3 + 1) hM37 hK39 hI41 hF40 (by omega) (hol_up hi0 (by omega) rfl hd38) (by omega) (by omega))
    ·
      intro vh sc_ ai_ x3 hM hK hJ hF hx3 hi0 hi1 hN
      have hn8 := hJ.1.1
      refine w_ldI e106_81 (fun _ => rfl) rfl ?_
      refine w_ldI e106_82 (fun _ => rfl) rfl ?_
      refine w_ic e106_83 (by omega) hi_1 (fun (h42 : x3 ≤ i1) => ?_) (fun (h42 : i1 < x3) => ?_)
      ·
        refine w_ldA e106_106 (fun _ => rfl) rfl ?_
        have e43 := tm_o hM
        refine w_get e106_107 e43 rfl ?_
        refine w_ldI e106_110 (fun _ => rfl) rfl ?_
        refine w_ldI e106_111 (fun _ => rfl) rfl ?_
        have e44 := tm_i hM (a := 240) (n := 8) rfl
        refine w_ast e106_112 e44 (by omega) (by omega) (by decide) (by decide) (fun v47 b45 h46 => ?_)
        obtain ⟨ai48, hd50, hM49⟩ : ∃ z, z = u2 ai_ 240 (i1).toNat i2 ∧ tm sc_ z al az v0 v47 := ⟨_, rfl, tm_pi hM rfl hi_2 b45 h46⟩
        have hK51 : tmok ai48 := by rw [hd50]; exact tmok_o hK (by omega)
        have hF52 : fr [0, 10, 11, 12, 18] [240] 0 68 sc ai al az sc_ ai48 al az := fr_i hF hd50 rfl (by decide)
        have hI53 : gi sc_ ai48 al az := gi_i hJ hd50 (by decide)
        have hS54 : sj sc_ ai48 := hol_end (hol_n hi0 (by omega)) (by omega) (by omega) hd50
        refine w_ldA e106_113 (fun _ => rfl) rfl ?_
        have e55 := tm_o hM49
        refine w_cv e106_114 (by decide) rfl e55 rfl (Nat.le_of_ble_eq_true rfl) (Nat.le_of_ble_eq_true rfl) (Nat.le_of_ble_eq_true rfl) (by decide) (by decide) (k101 hM49 hK51 hI53) (fun o56 v57 hq58 => ?_)
        obtain ⟨⟨sc59, hM63, hI65, hG66, hE67⟩, rfl⟩ := hq58
        have hs68 : sc59 0 = sc_ 0 := hG66.1 0 rfl
        have hs69 : sc59 1 = sc_ 1 := hG66.1 1 rfl
        have hs70 : sc59 4 = sc_ 4 := hG66.1 4 rfl
        have hs71 : sc59 38 = sc_ 38 := hG66.1 38 rfl
        have hF72 : fr [0, 10, 11, 12, 18] [240] 0 68 sc ai al az sc59 ai48 al az := fr_t hF52 hG66 rfl rfl (by omega)
        have hS73 := sjk_fr hS54 hK51 hG66 rfl rfl
        have hf74 := hE67.1
        have hf75 := hE67.2
        have hR76 : ri2 sc59 ai48 al az := ri2_0 hS73 (by omega) (by omega)
        refine w_kI e106_117 ?_
        refine w_stI (j := 4) (A1 := [some (.ref 238), some (.int (vz i1)), some (.int (vz i2)), some (.int (vz x3)), some (.int (vz 0))]) e106_118 (fun _ => rfl) (by decide) rfl ?_
        exact w_sub (A1 := [some (.ref 238), some (.int (vz i1)), some (.int (vz i2)), some (.int (vz x3)), some (.int (vz 0))]) (And.intro rfl (And.intro rfl (And.intro rfl (And.intro rfl (And.intro rfl trivial))))) ((ih.2.2.2) v57 sc59 ai48 al az x3 0 hM63 hK51 hI65 hF72 (by omega) (by omega) hR76 (by omega) (by omega))
      ·
        refine w_ldA e106_86 (fun _ => rfl) rfl ?_
        have e77 := tm_o hM
        refine w_get e106_87 e77 rfl ?_
        refine w_ldI e106_90 (fun _ => rfl) rfl ?_
        refine w_ldA e106_91 (fun _ => rfl) rfl ?_
        refine w_get e106_92 e77 rfl ?_
        refine w_ldI e106_95 (fun _ => rfl) rfl ?_
        refine w_kI e106_96 ?_
        refine w_isub e106_97 ?_
        have e78 := tm_i hM (a := 240) (n := 8) rfl
        refine w_ald e106_98 e78 (by omega) (by omega) (by decide) ?_
        show vm_Wp _ _ _ 99 _ [.int (vz (ai_ 240 (x3 - 1).toNat)), .int (vz x3), .ref 240] _ _
        have hk79 := hK.2 (x3 - 1).toNat
        refine w_ast e106_99 e78 (by omega) (by omega) (by decide) (by decide) (fun v82 b80 h81 => ?_)
        obtain ⟨ai83, hd85, hM84⟩ : ∃ z, z = u2 ai_ 240 (x3).toNat (ai_ 240 (x3 - 1).toNat) ∧ tm sc_ z al az v0 v82 := ⟨_, rfl, tm_pi hM rfl (tm_r hM 240 (x3 - 1).toNat) b80 h81⟩
        have hK86 : tmok ai83 := by rw [hd85]; exact tmok_o hK (by omega)
        have hF87 : fr [0, 10, 11, 12, 18] [240] 0 68 sc ai al az sc_ ai83 al az := fr_i hF hd85 rfl (by decide)
        have hI88 : gi sc_ ai83 al az := gi_i hJ hd85 (by decide)
        refine w_iinc (A1 := [some (.ref 238), some (.int (vz i1)), some (.int (vz i2)), some (.int (vz (x3 + (-1)))), none]) e106_100 rfl (by decide) rfl ?_
        refine w_x e106_103 (fun _ => rfl) ?_
        exact w_sub (A1 := [some (.ref 238), some (.int (vz i1)), some (.int (vz i2)), some (.int (vz (x3 + (-1)))), none]) (And.intro rfl (And.intro rfl (And.intro rfl (And.intro rfl trivial)))) ((ih.2.2.1) v82 sc_ ai83 (x3 + (-1)) hM84 hK86 hI88 hF87 (by omega) (hol_dn hi0 (by omega) rfl hd85) (by omega) (by omega))
    ·
      intro vh sc_ ai_ al_ az_ x3 x4 hM hK hJ hF hx3 hx4 hi0 hi1 hN
      have hn8 := hJ.1.1
      refine w_ldI e106_120 (fun _ => rfl) rfl ?_
      refine w_ldA e106_122 (fun _ => rfl) rfl ?_
      have e89 := tm_o hM
      refine w_get e106_123 e89 rfl ?_
      refine w_ic e106_126 (by omega) (tm_s hM 4) (fun (h90 : sc_ 4 ≤ x4) => ?_) (fun (h90 : x4 < sc_ 4) => ?_)
      ·
        refine w_ldA e106_141 (fun _ => rfl) rfl ?_
        refine w_kB e106_142 rfl ?_
        refine w_cv e106_144 (by decide) rfl e89 rfl (Nat.le_of_ble_eq_true rfl) (Nat.le_of_ble_eq_true rfl) (Nat.le_of_ble_eq_true rfl) (by decide) (by decide) (k80 hM hK hJ (by omega)) (fun o91 v92 hq93 => ?_)
        obtain ⟨⟨sc94, ai95, al96, az97, hM98, hK99, hI100, hG101, hE102⟩, rfl⟩ := hq93
        have hs103 : sc94 0 = sc_ 0 := hG101.1 0 rfl
        have hs104 : sc94 1 = sc_ 1 := hG101.1 1 rfl
        have hs105 : sc94 4 = sc_ 4 := hG101.1 4 rfl
        have hs106 : sc94 11 = sc_ 11 := hG101.1 11 rfl
        have hs107 : sc94 18 = sc_ 18 := hG101.1 18 rfl
        have hs108 : sc94 38 = sc_ 38 := hG101.1 38 rfl
        have hF109 : fr [0, 10, 11, 12, 18] [240] 0 68 sc ai al az sc94 ai95 al96 az97 := fr_t hF hG101 rfl rfl (by omega)
        have hR110 := ri2_fr hi0 hK hG101 rfl rfl rfl rfl rfl rfl rfl rfl rfl (by omega)
        have hS111 := sjk_fr hi0.1 hK hG101 rfl rfl
        refine w_kI e106_147 ?_
        exact w_rz e106_148 rfl (by omega) ⟨⟨sc94, ai95, al96, az97, hM98, hK99, hI100, hF109, hR110⟩, 1, (by omega), rfl⟩
      ·
        refine w_ldA e106_129 (fun _ => rfl) rfl ?_
        refine w_ldI e106_130 (fun _ => rfl) rfl ?_
        refine w_cv e106_132 (by decide) rfl e89 rfl (Nat.le_of_ble_eq_true rfl) (Nat.le_of_ble_eq_true rfl) (Nat.le_of_ble_eq_true rfl) (by decide) (by decide) (k80 hM hK hJ (by omega)) (fun o112 v113 hq114 => ?_)
        obtain ⟨⟨sc115, ai116, al117, az118, hM119, hK120, hI121, hG122, hE123⟩, rfl⟩ := hq114
        have hs124 : sc115 0 = sc_ 0 := hG122.1 0 rfl
        have hs125 : sc115 1 = sc_ 1 := hG122.1 1 rfl
        have hs126 : sc115 4 = sc_ 4 := hG122.1 4 rfl
        have hs127 : sc115 11 = sc_ 11 := hG122.1 11 rfl
        have hs128 : sc115 18 = sc_ 18 := hG122.1 18 rfl
        have hs129 : sc115 38 = sc_ 38 := hG122.1 38 rfl
        have hF130 : fr [0, 10, 11, 12, 18] [240] 0 68 sc ai al az sc115 ai116 al117 az118 := fr_t hF hG122 rfl rfl (by omega)
        have hR131 := ri2_fr hi0 hK hG122 rfl rfl rfl rfl rfl rfl rfl rfl rfl (by omega)
        have hS132 := sjk_fr hi0.1 hK hG122 rfl rfl
        refine w_iinc (A1 := [some (.ref 238), some (.int (vz i1)), some (.int (vz i2)), some (.int (vz x3)), some (.int (vz (x4 + 1)))]) e106_135 rfl (by decide) rfl ?_
        refine w_x e106_138 (fun _ => rfl) ?_
        exact w_sub (A1 := [some (.ref 238), some (.int (vz i1)), some (.int (vz i2)), some (.int (vz x3)), some (.int (vz (x4 + 1)))]) (And.intro rfl (And.intro rfl (And.intro rfl (And.intro rfl (And.intro rfl trivial))))) ((ih.2.2.2) v113 sc115 ai116 al117 az118 x3 (x4 + 1) hM119 hK120 hI121 hF130 hx3 (by omega) hR131 (by omega) (by omega))
set_option maxRecDepth 100000 in
set_option maxHeartbeats 4000000 in
theorem c106 {sc : Nat → Int} {ai : Nat → Nat → Int} {al : Nat → Nat → Int64} {az : Nat → Nat → Int32} {v0 vh : vm_H} (hM : tm sc ai al az v0 vh) (hK : tmok ai) (hI : gi sc ai al az) {i1 : Int} (hi_1 : -2147483648 ≤ i1 ∧ i1 < 2147483648) {i2 : Int} (hi_2 : -2147483648 ≤ i2 ∧ i2 < 2147483648) (hR : ri2 sc ai al az) : vm_Rp 3 77 106 [.ref 238, .int (vz i1), .int (vz i2)] vh (fun r v1 => (∃ (sc1 : Nat → Int) (ai1 : Nat → Nat → Int) (al1 : Nat → Nat → Int64) (az1 : Nat → Nat → Int32), tm sc1 ai1 al1 az1 v0 v1 ∧ tmok ai1 ∧ gi sc1 ai1 al1 az1 ∧ fr [0, 10, 11, 12, 18] [240] 0 68 sc ai al az sc1 ai1 al1 az1 ∧ (ri2 sc1 ai1 al1 az1)) ∧ ∃ q : Int, ((0 ≤ q ∧ q ≤ 1) ∧ (q = 1 ↔ (0 ≤ i2 ∧ i2 < sc 1 ∧ 0 ≤ i1 ∧ i1 < sc 1))) ∧ r = some (.int (vz q))) := by
  have hF0 : fr [0, 10, 11, 12, 18] [240] 0 68 sc ai al az sc ai al az := fr_0 _ _ _ _ _ _ _ _
  have hn8 := hI.1.1
  refine w_in (m := 2) ?_
  show vm_Wp _ _ _ 0 [some (.ref 238), some (.int (vz i1)), some (.int (vz i2)), none, none] [] _ _
  refine w_ldA e106_0 (fun _ => rfl) rfl ?_
  refine w_kI e106_1 ?_
  have e1 := tm_o hM
  refine w_put e106_2 e1 (Nat.le_of_ble_eq_true rfl) rfl (fun v4 b2 h3 => ?_)
  obtain ⟨sc5, hd7, hM6⟩ : ∃ z, z = u1 sc 0 (0) ∧ tm z ai al az v0 v4 := ⟨_, rfl, tm_ps 0 hM (by omega) b2 h3⟩
  have hs8 : sc5 0 = 0 := by rw [hd7]; exact u1_s
  have hs9 : sc5 1 = sc 1 := by rw [hd7]; exact u1_o (by decide)
  have hs10 : sc5 4 = sc 4 := by rw [hd7]; exact u1_o (by decide)
  have hs11 : sc5 11 = sc 11 := by rw [hd7]; exact u1_o (by decide)
  have hs12 : sc5 18 = sc 18 := by rw [hd7]; exact u1_o (by decide)
  have hs13 : sc5 38 = sc 38 := by rw [hd7]; exact u1_o (by decide)
  have hF14 : fr [0, 10, 11, 12, 18] [240] 0 68 sc ai al az sc5 ai al az := fr_s hF0 hd7 rfl
  have hI15 : gi sc5 ai al az := gi_s hI hd7 (by decide) (by decide) (by decide)
  have hR16 := ri2_fr hR hK (fr_s (X := [0]) (Y := []) (lo := 1) (hi := 0) (fr_0 _ _ _ _ sc ai al az) hd7 rfl) rfl rfl rfl rfl rfl rfl rfl rfl rfl (by omega)
  have hS17 := sjk_fr hR.1 hK (fr_s (X := [0]) (Y := []) (lo := 1) (hi := 0) (fr_0 _ _ _ _ sc ai al az) hd7 rfl) rfl rfl
  refine w_ldI e106_5 (fun _ => rfl) rfl ?_
  refine w_if e106_6 hi_2 (fun (h18 : i2 < 0) => ?_) (fun (h18 : 0 ≤ i2) => ?_)
  ·
    refine w_kI e106_29 ?_
    exact w_rz e106_30 rfl (by omega) ⟨⟨sc5, ai, al, az, hM6, hK, hI15, hF14, hR16⟩, 0, (by omega), rfl⟩
  ·
    refine w_ldI e106_9 (fun _ => rfl) rfl ?_
    refine w_ldA e106_10 (fun _ => rfl) rfl ?_
    have e19 := tm_o hM6
    refine w_get e106_11 e19 rfl ?_
    refine w_ic e106_14 hi_2 (tm_s hM6 1) (fun (h20 : sc5 1 ≤ i2) => ?_) (fun (h20 : i2 < sc5 1) => ?_)
    ·
      refine w_kI e106_29 ?_
      exact w_rz e106_30 rfl (by omega) ⟨⟨sc5, ai, al, az, hM6, hK, hI15, hF14, hR16⟩, 0, (by omega), rfl⟩
    ·
      refine w_ldI e106_17 (fun _ => rfl) rfl ?_
      refine w_if e106_18 hi_1 (fun (h21 : i1 < 0) => ?_) (fun (h21 : 0 ≤ i1) => ?_)
      ·
        refine w_kI e106_29 ?_
        exact w_rz e106_30 rfl (by omega) ⟨⟨sc5, ai, al, az, hM6, hK, hI15, hF14, hR16⟩, 0, (by omega), rfl⟩
      ·
        refine w_ldI e106_21 (fun _ => rfl) rfl ?_
        refine w_ldA e106_22 (fun _ => rfl) rfl ?_
        refine w_get e106_23 e19 rfl ?_
        refine w_ic e106_26 hi_1 (tm_s hM6 1) (fun (h22 : i1 < sc5 1) => ?_) (fun (h22 : sc5 1 ≤ i1) => ?_)
        ·
          refine w_kI e106_31 ?_
          refine w_stI (j := 3) (A1 := [some (.ref 238), some (.int (vz i1)), some (.int (vz i2)), some (.int (vz 0)), none]) e106_32 (fun _ => rfl) (by decide) rfl ?_
          exact w_sub (A1 := [some (.ref 238), some (.int (vz i1)), some (.int (vz i2)), some (.int (vz 0)), none]) (And.intro rfl (And.intro rfl (And.intro rfl (And.intro rfl trivial)))) (((c106_L (sc := sc) (ai := ai) (al := al) (az := az) (v0 := v0) (i1 := i1) (i2 := i2) hK hI hi_1 hi_2 hR _).1) v4 sc5 0 hM6 hK hI15 hF14 (by omega) hR16 (by obtain ⟨j, h8, h9⟩ := hR.1 i2 (by omega) (by omega); exact ⟨j, by omega, h8, h9⟩) (by omega) (Nat.lt_succ_self _))
        ·
          refine w_kI e106_29 ?_
          exact w_rz e106_30 rfl (by omega) ⟨⟨sc5, ai, al, az, hM6, hK, hI15, hF14, hR16⟩, 0, (by omega), rfl⟩
set_option maxRecDepth 100000 in
set_option maxHeartbeats 4000000 in
theorem c107 {sc : Nat → Int} {ai : Nat → Nat → Int} {al : Nat → Nat → Int64} {az : Nat → Nat → Int32} {v0 vh : vm_H} (hM : tm sc ai al az v0 vh) (hK : tmok ai) (hI : gi sc ai al az) (hR : ri2 sc ai al az) : vm_Rp 0 0 107 [.ref 238] vh (fun r v1 => (∃ (sc1 : Nat → Int) (ai1 : Nat → Nat → Int) (al1 : Nat → Nat → Int64) (az1 : Nat → Nat → Int32), tm sc1 ai1 al1 az1 v0 v1 ∧ tmok ai1 ∧ gi sc1 ai1 al1 az1 ∧ fr [0, 4] [241] (sc 4).toNat (sc 4).toNat sc ai al az sc1 ai1 al1 az1 ∧ (ri2 sc1 ai1 al1 az1 ∧ ((sc 4 = 16 ∧ sc1 4 = sc 4) ∨ (sc 4 ≠ 16 ∧ sc1 4 = sc 4 + 1)))) ∧ ∃ q : Int, ((sc 4 = 16 ∧ q = -1) ∨ (sc 4 ≠ 16 ∧ q = sc 4)) ∧ r = some (.int (vz q))) := by
  have hF0 : fr [0, 4] [241] (sc 4).toNat (sc 4).toNat sc ai al az sc ai al az := fr_0 _ _ _ _ _ _ _ _
  have hn8 := hI.1.1
  refine w_in (m := 0) ?_
  show vm_Wp _ _ _ 0 [some (.ref 238)] [] _ _
  refine w_ldA e107_0 (fun _ => rfl) rfl ?_
  refine w_kI e107_1 ?_
  have e1 := tm_o hM
  refine w_put e107_2 e1 (Nat.le_of_ble_eq_true rfl) rfl (fun v4 b2 h3 => ?_)
  obtain ⟨sc5, hd7, hM6⟩ : ∃ z, z = u1 sc 0 (0) ∧ tm z ai al az v0 v4 := ⟨_, rfl, tm_ps 0 hM (by omega) b2 h3⟩
  have hs8 : sc5 0 = 0 := by rw [hd7]; exact u1_s
  have hs9 : sc5 1 = sc 1 := by rw [hd7]; exact u1_o (by decide)
  have hs10 : sc5 4 = sc 4 := by rw [hd7]; exact u1_o (by decide)
  have hs11 : sc5 11 = sc 11 := by rw [hd7]; exact u1_o (by decide)
  have hs12 : sc5 18 = sc 18 := by rw [hd7]; exact u1_o (by decide)
  have hs13 : sc5 38 = sc 38 := by rw [hd7]; exact u1_o (by decide)
  have hF14 : fr [0, 4] [241] (sc 4).toNat (sc 4).toNat sc ai al az sc5 ai al az := fr_s hF0 hd7 rfl
  have hI15 : gi sc5 ai al az := gi_s hI hd7 (by decide) (by decide) (by decide)
  have hR16 := ri2_fr hR hK (fr_s (X := [0]) (Y := []) (lo := 1) (hi := 0) (fr_0 _ _ _ _ sc ai al az) hd7 rfl) rfl rfl rfl rfl rfl rfl rfl rfl rfl (by omega)
  have hS17 := sjk_fr hR.1 hK (fr_s (X := [0]) (Y := []) (lo := 1) (hi := 0) (fr_0 _ _ _ _ sc ai al az) hd7 rfl) rfl rfl
  refine w_ldA e107_5 (fun _ => rfl) rfl ?_
  have e18 := tm_o hM6
  refine w_get e107_6 e18 rfl ?_
  refine w_kB e107_9 rfl ?_
  refine w_ic e107_11 (tm_s hM6 4) (by omega) (fun (h19 : sc5 4 ≠ 16) => ?_) (fun (h19 : sc5 4 = 16) => ?_)
  ·
    refine w_ldA e107_16 (fun _ => rfl) rfl ?_
    refine w_get e107_17 e18 rfl ?_
    refine w_ldA e107_20 (fun _ => rfl) rfl ?_
    refine w_get e107_21 e18 rfl ?_
    refine w_kI e107_24 ?_
    have e20 := tm_i hM6 (a := 242) (n := 72) rfl
    refine w_ast e107_25 e20 (by omega) (by omega) (by decide) (by decide) (fun v23 b21 h22 => ?_)
    obtain ⟨ai24, hd26, hM25⟩ : ∃ z, z = u2 ai 242 (sc5 4).toNat 0 ∧ tm sc5 z al az v0 v23 := ⟨_, rfl, tm_pi hM6 rfl (by omega) b21 h22⟩
    have hK27 : tmok ai24 := by rw [hd26]; exact tmok_c hK (by omega)
    have hF28 : fr [0, 4] [241] (sc 4).toNat (sc 4).toNat sc ai al az sc5 ai24 al az := fr_c hF14 hd26 (by omega)
    have hR29 := ri2_fr hR16 hK (fr_c (X := []) (Y := []) (lo := (sc5 4).toNat) (hi := (sc5 4).toNat) (fr_0 _ _ _ _ sc5 ai al az) hd26 (by omega)) rfl rfl rfl rfl rfl rfl rfl rfl rfl (by omega)
    have hS30 := sjk_fr hS17 hK (fr_c (X := []) (Y := []) (lo := (sc5 4).toNat) (hi := (sc5 4).toNat) (fr_0 _ _ _ _ sc5 ai al az) hd26 (by omega)) rfl rfl
    have hI31 : gi sc5 ai24 al az := gi_new hI15 (s := sc5 4) (by omega) (fr_c (X := []) (Y := []) (lo := (sc5 4).toNat) (hi := (sc5 4).toNat) (fr_0 _ _ _ _ _ _ _ _) hd26 (by omega)) rfl rfl rfl rfl hK27 (fun t ht => by rw [hd26, u2_s] at ht; omega)
    refine w_ldA e107_26 (fun _ => rfl) rfl ?_
    have e32 := tm_o hM25
    refine w_get e107_27 e32 rfl ?_
    refine w_ldA e107_30 (fun _ => rfl) rfl ?_
    refine w_get e107_31 e32 rfl ?_
    refine w_kI e107_34 ?_
    have e33 := tm_z hM25 (a := 241) (n := 16) rfl
    refine w_zst e107_35 e33 (by omega) (by omega) (by decide) (fun v36 b34 h35 => ?_)
    obtain ⟨az37, hd39, hM38⟩ : ∃ z, z = u2 az 241 (sc5 4).toNat (vz 0 &&& 1) ∧ tm sc5 ai24 al z v0 v36 := ⟨_, rfl, tm_pz hM25 rfl b34 h35⟩
    have hF40 : fr [0, 4] [241] (sc 4).toNat (sc 4).toNat sc ai al az sc5 ai24 al az37 := fr_z hF28 hd39 rfl
    have hI41 : gi sc5 ai24 al az37 := gi_z hI31 hd39 (by decide)
    have hR42 := ri2_fr hR29 hK27 (fr_z (X := []) (Y := [241]) (lo := 1) (hi := 0) (fr_0 _ _ _ _ sc5 ai24 al az) hd39 rfl) rfl rfl rfl rfl rfl rfl rfl rfl rfl (by omega)
    have hS43 := sjk_fr hS30 hK27 (fr_z (X := []) (Y := [241]) (lo := 1) (hi := 0) (fr_0 _ _ _ _ sc5 ai24 al az) hd39 rfl) rfl rfl
    refine w_ldA e107_36 (fun _ => rfl) rfl ?_
    refine w_x e107_37 (fun _ => rfl) ?_
    have e44 := tm_o hM38
    refine w_get e107_38 e44 rfl ?_
    refine w_kI e107_41 ?_
    refine w_iadd e107_42 ?_
    refine w_put e107_43 e44 (Nat.le_of_ble_eq_true rfl) rfl (fun v47 b45 h46 => ?_)
    obtain ⟨sc48, hd50, hM49⟩ : ∃ z, z = u1 sc5 4 ((sc5 4) + 1) ∧ tm z ai24 al az37 v0 v47 := ⟨_, rfl, tm_ps 4 hM38 (by omega) b45 h46⟩
    have hs51 : sc48 0 = sc5 0 := by rw [hd50]; exact u1_o (by decide)
    have hs52 : sc48 1 = sc5 1 := by rw [hd50]; exact u1_o (by decide)
    have hs53 : sc48 4 = (sc5 4) + 1 := by rw [hd50]; exact u1_s
    have hs54 : sc48 11 = sc5 11 := by rw [hd50]; exact u1_o (by decide)
    have hs55 : sc48 18 = sc5 18 := by rw [hd50]; exact u1_o (by decide)
    have hs56 : sc48 38 = sc5 38 := by rw [hd50]; exact u1_o (by decide)
    have hF57 : fr [0, 4] [241] (sc 4).toNat (sc 4).toNat sc ai al az sc48 ai24 al az37 := fr_s hF40 hd50 rfl
    have hI58 : gi sc48 ai24 al az37 := gi_p hI41 hd50 (by omega)
    have hR59 := ri2_fr hR42 hK27 (fr_s (X := [4]) (Y := []) (lo := 1) (hi := 0) (fr_0 _ _ _ _ sc5 ai24 al az37) hd50 rfl) rfl rfl rfl rfl rfl rfl rfl rfl rfl (by omega)
    have hS60 := sjk_fr hS43 hK27 (fr_s (X := [4]) (Y := []) (lo := 1) (hi := 0) (fr_0 _ _ _ _ sc5 ai24 al az37) hd50 rfl) rfl rfl
    refine w_ldA e107_46 (fun _ => rfl) rfl ?_
    have e61 := tm_o hM49
    refine w_get e107_47 e61 rfl ?_
    refine w_kI e107_50 ?_
    refine w_isub e107_51 ?_
    exact w_ri e107_52 rfl ⟨⟨sc48, ai24, al, az37, hM49, hK27, hI58, hF57, ⟨hR59, by omega⟩⟩, (sc48 4) - 1, (by omega), rfl⟩
  ·
    refine w_kI e107_14 ?_
    exact w_ri e107_15 rfl ⟨⟨sc5, ai, al, az, hM6, hK, hI15, hF14, ⟨hR16, by omega⟩⟩, -1, (by omega), rfl⟩
set_option maxRecDepth 100000 in
set_option maxHeartbeats 4000000 in
theorem c109 {sc : Nat → Int} {ai : Nat → Nat → Int} {al : Nat → Nat → Int64} {az : Nat → Nat → Int32} {v0 vh : vm_H} (hM : tm sc ai al az v0 vh) (hK : tmok ai) (hI : gi sc ai al az) {i1 : Int} (hi_1 : -2147483648 ≤ i1 ∧ i1 < 2147483648) {i2 : Int} (hi_2 : 0 ≤ i2 ∧ i2 ≤ 1) (hR : ri2 sc ai al az) : vm_Rp 1 21 109 [.ref 238, .int (vz i1), .int (vz i2)] vh (fun r v1 => (∃ (sc1 : Nat → Int) (ai1 : Nat → Nat → Int) (al1 : Nat → Nat → Int64) (az1 : Nat → Nat → Int32), tm sc1 ai1 al1 az1 v0 v1 ∧ tmok ai1 ∧ gi sc1 ai1 al1 az1 ∧ fr [0, 10, 11, 12, 18] [241] 1 0 sc ai al az sc1 ai1 al1 az1 ∧ (ri2 sc1 ai1 al1 az1)) ∧ ∃ q : Int, ((0 ≤ q ∧ q ≤ 1)) ∧ r = some (.int (vz q))) := by
  have hF0 : fr [0, 10, 11, 12, 18] [241] 1 0 sc ai al az sc ai al az := fr_0 _ _ _ _ _ _ _ _
  have hn8 := hI.1.1
  refine w_in (m := 0) ?_
  show vm_Wp _ _ _ 0 [some (.ref 238), some (.int (vz i1)), some (.int (vz i2))] [] _ _
  refine w_ldA e109_0 (fun _ => rfl) rfl ?_
  refine w_kI e109_1 ?_
  have e1 := tm_o hM
  refine w_put e109_2 e1 (Nat.le_of_ble_eq_true rfl) rfl (fun v4 b2 h3 => ?_)
  obtain ⟨sc5, hd7, hM6⟩ : ∃ z, z = u1 sc 0 (0) ∧ tm z ai al az v0 v4 := ⟨_, rfl, tm_ps 0 hM (by omega) b2 h3⟩
  have hs8 : sc5 0 = 0 := by rw [hd7]; exact u1_s
  have hs9 : sc5 1 = sc 1 := by rw [hd7]; exact u1_o (by decide)
  have hs10 : sc5 4 = sc 4 := by rw [hd7]; exact u1_o (by decide)
  have hs11 : sc5 11 = sc 11 := by rw [hd7]; exact u1_o (by decide)
  have hs12 : sc5 18 = sc 18 := by rw [hd7]; exact u1_o (by decide)
  have hs13 : sc5 38 = sc 38 := by rw [hd7]; exact u1_o (by decide)
  have hF14 : fr [0, 10, 11, 12, 18] [241] 1 0 sc ai al az sc5 ai al az := fr_s hF0 hd7 rfl
  have hI15 : gi sc5 ai al az := gi_s hI hd7 (by decide) (by decide) (by decide)
  have hR16 := ri2_fr hR hK (fr_s (X := [0]) (Y := []) (lo := 1) (hi := 0) (fr_0 _ _ _ _ sc ai al az) hd7 rfl) rfl rfl rfl rfl rfl rfl rfl rfl rfl (by omega)
  have hS17 := sjk_fr hR.1 hK (fr_s (X := [0]) (Y := []) (lo := 1) (hi := 0) (fr_0 _ _ _ _ sc ai al az) hd7 rfl) rfl rfl
  refine w_ldA e109_5 (fun _ => rfl) rfl ?_
  refine w_ldI e109_6 (fun _ => rfl) rfl ?_
  have e18 := tm_o hM6
  refine w_cv e109_7 (by decide) rfl e18 rfl (Nat.le_of_ble_eq_true rfl) (Nat.le_of_ble_eq_true rfl) (Nat.le_of_ble_eq_true rfl) (by decide) (by decide) (c103 hM6 hK hi_1) (fun o19 v20 hq21 => ?_)
  obtain ⟨rfl, q22, h23, rfl⟩ := hq21
  refine w_if e109_10 (by omega) (fun (h24 : q22 ≠ 0) => ?_) (fun (h24 : q22 = 0) => ?_)
  ·
    refine w_kI e109_23 ?_
    exact w_rz e109_24 rfl (by omega) ⟨⟨sc5, ai, al, az, hM6, hK, hI15, hF14, hR16⟩, 0, (by omega), rfl⟩
  ·
    refine w_ldA e109_13 (fun _ => rfl) rfl ?_
    refine w_get e109_14 e18 rfl ?_
    refine w_ldI e109_17 (fun _ => rfl) rfl ?_
    have e25 := tm_z hM6 (a := 241) (n := 16) rfl
    refine w_zldO e109_18 e25 (by omega) (by omega) (by decide) (fun q26 h27 h28 => ?_)
    refine w_ldI e109_19 (fun _ => rfl) rfl ?_
    refine w_ic e109_20 h27 (by omega) (fun (h29 : q26 ≠ i2) => ?_) (fun (h29 : q26 = i2) => ?_)
    ·
      refine w_ldA e109_25 (fun _ => rfl) rfl ?_
      refine w_get e109_26 e18 rfl ?_
      refine w_ldI e109_29 (fun _ => rfl) rfl ?_
      refine w_ldI e109_30 (fun _ => rfl) rfl ?_
      refine w_zst e109_31 e25 (by omega) (by omega) (by decide) (fun v32 b30 h31 => ?_)
      obtain ⟨az33, hd35, hM34⟩ : ∃ z, z = u2 az 241 (i1).toNat (vz i2 &&& 1) ∧ tm sc5 ai al z v0 v32 := ⟨_, rfl, tm_pz hM6 rfl b30 h31⟩
      have hF36 : fr [0, 10, 11, 12, 18] [241] 1 0 sc ai al az sc5 ai al az33 := fr_z hF14 hd35 rfl
      have hI37 : gi sc5 ai al az33 := gi_z hI15 hd35 (by decide)
      have hR38 := ri2_fr hR16 hK (fr_z (X := []) (Y := [241]) (lo := 1) (hi := 0) (fr_0 _ _ _ _ sc5 ai al az) hd35 rfl) rfl rfl rfl rfl rfl rfl rfl rfl rfl (by omega)
      have hS39 := sjk_fr hS17 hK (fr_z (X := []) (Y := [241]) (lo := 1) (hi := 0) (fr_0 _ _ _ _ sc5 ai al az) hd35 rfl) rfl rfl
      refine w_ldA e109_32 (fun _ => rfl) rfl ?_
      have e40 := tm_o hM34
      refine w_cv e109_33 (by decide) rfl e40 rfl (Nat.le_of_ble_eq_true rfl) (Nat.le_of_ble_eq_true rfl) (Nat.le_of_ble_eq_true rfl) (by decide) (by decide) (k101 hM34 hK hI37) (fun o41 v42 hq43 => ?_)
      obtain ⟨⟨sc44, hM48, hI50, hG51, hE52⟩, rfl⟩ := hq43
      have hs53 : sc44 0 = sc5 0 := hG51.1 0 rfl
      have hs54 : sc44 1 = sc5 1 := hG51.1 1 rfl
      have hs55 : sc44 4 = sc5 4 := hG51.1 4 rfl
      have hs56 : sc44 38 = sc5 38 := hG51.1 38 rfl
      have hF57 : fr [0, 10, 11, 12, 18] [241] 1 0 sc ai al az sc44 ai al az33 := fr_t hF36 hG51 rfl rfl (by omega)
      have hS58 := sjk_fr hS39 hK hG51 rfl rfl
      have hf59 := hE52.1
      have hf60 := hE52.2
      have hR61 : ri2 sc44 ai al az33 := ri2_0 hS58 (by omega) (by omega)
      refine w_kI e109_36 ?_
      exact w_rz e109_37 rfl (by omega) ⟨⟨sc44, ai, al, az33, hM48, hK, hI50, hF57, hR61⟩, 1, (by omega), rfl⟩
    ·
      refine w_kI e109_23 ?_
      exact w_rz e109_24 rfl (by omega) ⟨⟨sc5, ai, al, az, hM6, hK, hI15, hF14, hR16⟩, 0, (by omega), rfl⟩
set_option maxRecDepth 100000 in
set_option maxHeartbeats 4000000 in
theorem c112 {sc : Nat → Int} {ai : Nat → Nat → Int} {al : Nat → Nat → Int64} {az : Nat → Nat → Int32} {v0 vh : vm_H} (hM : tm sc ai al az v0 vh) (hK : tmok ai) (hI : gi sc ai al az) {i1 : Int} (hi_1 : -2147483648 ≤ i1 ∧ i1 < 2147483648) {i2 : Int} (hi_2 : -2147483648 ≤ i2 ∧ i2 < 2147483648) (hR : ri2 sc ai al az) : vm_Rp 4 90 112 [.ref 238, .int (vz i1), .int (vz i2)] vh (fun r v1 => (∃ (sc1 : Nat → Int) (ai1 : Nat → Nat → Int) (al1 : Nat → Nat → Int64) (az1 : Nat → Nat → Int32), tm sc1 ai1 al1 az1 v0 v1 ∧ tmok ai1 ∧ gi sc1 ai1 al1 az1 ∧ fr [0] [] 1 0 sc ai al az sc1 ai1 al1 az1 ∧ (ri2 sc1 ai1 al1 az1)) ∧ ∃ q : Int, (-2147483648 ≤ q ∧ q < 2147483648) ∧ r = some (.int (vz q))) := by
  have hF0 : fr [0] [] 1 0 sc ai al az sc ai al az := fr_0 _ _ _ _ _ _ _ _
  have hn8 := hI.1.1
  have hm8 := hR.2.1.1
  refine w_in (m := 0) ?_
  show vm_Wp _ _ _ 0 [some (.ref 238), some (.int (vz i1)), some (.int (vz i2))] [] _ _
  refine w_ldA e112_0 (fun _ => rfl) rfl ?_
  refine w_kI e112_1 ?_
  have e1 := tm_o hM
  refine w_put e112_2 e1 (Nat.le_of_ble_eq_true rfl) rfl (fun v4 b2 h3 => ?_)
  obtain ⟨sc5, hd7, hM6⟩ : ∃ z, z = u1 sc 0 (0) ∧ tm z ai al az v0 v4 := ⟨_, rfl, tm_ps 0 hM (by omega) b2 h3⟩
  have hs8 : sc5 0 = 0 := by rw [hd7]; exact u1_s
  have hs9 : sc5 1 = sc 1 := by rw [hd7]; exact u1_o (by decide)
  have hs10 : sc5 4 = sc 4 := by rw [hd7]; exact u1_o (by decide)
  have hs11 : sc5 11 = sc 11 := by rw [hd7]; exact u1_o (by decide)
  have hs12 : sc5 18 = sc 18 := by rw [hd7]; exact u1_o (by decide)
  have hs13 : sc5 38 = sc 38 := by rw [hd7]; exact u1_o (by decide)
  have hF14 : fr [0] [] 1 0 sc ai al az sc5 ai al az := fr_s hF0 hd7 rfl
  have hI15 : gi sc5 ai al az := gi_s hI hd7 (by decide) (by decide) (by decide)
  have hR16 := ri2_fr hR hK (fr_s (X := [0]) (Y := []) (lo := 1) (hi := 0) (fr_0 _ _ _ _ sc ai al az) hd7 rfl) rfl rfl rfl rfl rfl rfl rfl rfl rfl (by omega)
  have hS17 := sjk_fr hR.1 hK (fr_s (X := [0]) (Y := []) (lo := 1) (hi := 0) (fr_0 _ _ _ _ sc ai al az) hd7 rfl) rfl rfl
  refine w_ldA e112_5 (fun _ => rfl) rfl ?_
  refine w_ldI e112_6 (fun _ => rfl) rfl ?_
  have e18 := tm_o hM6
  refine w_cv e112_7 (by decide) rfl e18 rfl (Nat.le_of_ble_eq_true rfl) (Nat.le_of_ble_eq_true rfl) (Nat.le_of_ble_eq_true rfl) (by decide) (by decide) (c110 hM6 hK hi_1) (fun o19 v20 hq21 => ?_)
  obtain ⟨rfl, q22, h23, rfl⟩ := hq21
  refine w_if e112_10 (by omega) (fun (h24 : q22 ≠ 0) => ?_) (fun (h24 : q22 = 0) => ?_)
  ·
    refine w_kI e112_22 ?_
    exact w_ri e112_23 rfl ⟨⟨sc5, ai, al, az, hM6, hK, hI15, hF14, hR16⟩, -1, (by omega), rfl⟩
  ·
    refine w_ldI e112_13 (fun _ => rfl) rfl ?_
    refine w_if e112_14 hi_2 (fun (h25 : i2 < 0) => ?_) (fun (h25 : 0 ≤ i2) => ?_)
    ·
      refine w_kI e112_22 ?_
      exact w_ri e112_23 rfl ⟨⟨sc5, ai, al, az, hM6, hK, hI15, hF14, hR16⟩, -1, (by omega), rfl⟩
    ·
      refine w_ldI e112_17 (fun _ => rfl) rfl ?_
      refine w_kI e112_18 ?_
      refine w_ic e112_19 hi_2 (by omega) (fun (h26 : i2 ≤ 3) => ?_) (fun (h26 : 3 < i2) => ?_)
      ·
        refine w_ldI e112_24 (fun _ => rfl) rfl ?_
        refine w_if e112_25 hi_2 (fun (h27 : i2 ≠ 0) => ?_) (fun (h27 : i2 = 0) => ?_)
        ·
          refine w_ldI e112_36 (fun _ => rfl) rfl ?_
          refine w_kI e112_37 ?_
          refine w_ic e112_38 hi_2 (by omega) (fun (h28 : i2 ≠ 1) => ?_) (fun (h28 : i2 = 1) => ?_)
          ·
            refine w_ldI e112_57 (fun _ => rfl) rfl ?_
            refine w_kI e112_58 ?_
            refine w_ic e112_59 hi_2 (by omega) (fun (h29 : i2 ≠ 2) => ?_) (fun (h29 : i2 = 2) => ?_)
            ·
              refine w_ldA e112_74 (fun _ => rfl) rfl ?_
              refine w_get e112_75 e18 rfl ?_
              refine w_if e112_78 (tm_s hM6 18) (fun (h30 : sc5 18 = 0) => ?_) (fun (h30 : sc5 18 ≠ 0) => ?_)
              ·
                refine w_kI e112_90 ?_
                exact w_ri e112_91 rfl ⟨⟨sc5, ai, al, az, hM6, hK, hI15, hF14, hR16⟩, 0, (by omega), rfl⟩
              ·
                refine w_ldA e112_81 (fun _ => rfl) rfl ?_
                refine w_get e112_82 e18 rfl ?_
                refine w_ldI e112_85 (fun _ => rfl) rfl ?_
                have e31 := tm_i hM6 (a := 251) (n := 8) rfl
                refine w_ald e112_86 e31 (by omega) (by omega) (by decide) ?_
                show vm_Wp _ _ _ 87 _ [.int (vz (ai 251 (i1).toNat))] _ _
                refine w_x e112_87 (fun _ => rfl) ?_
                exact w_ri e112_91 rfl ⟨⟨sc5, ai, al, az, hM6, hK, hI15, hF14, hR16⟩, ai 251 (i1).toNat, (tm_r hM6 251 (i1).toNat), rfl⟩
            ·
              refine w_ldA e112_62 (fun _ => rfl) rfl ?_
              refine w_get e112_63 e18 rfl ?_
              refine w_kB e112_66 rfl ?_
              refine w_ldI e112_68 (fun _ => rfl) rfl ?_
              refine w_iadd e112_69 ?_
              have e32 := tm_i hM6 (a := 242) (n := 72) rfl
              refine w_ald e112_70 e32 (by omega) (by omega) (by decide) ?_
              show vm_Wp _ _ _ 71 _ [.int (vz (ai 242 (58 + i1).toNat))] _ _
              have hk33 := hK.1 (58 + i1).toNat
              refine w_x e112_71 (fun _ => rfl) ?_
              exact w_ri e112_91 rfl ⟨⟨sc5, ai, al, az, hM6, hK, hI15, hF14, hR16⟩, ai 242 (58 + i1).toNat, (tm_r hM6 242 (58 + i1).toNat), rfl⟩
          ·
            refine w_ldA e112_41 (fun _ => rfl) rfl ?_
            refine w_kB e112_42 rfl ?_
            refine w_ldI e112_44 (fun _ => rfl) rfl ?_
            refine w_iadd e112_45 ?_
            refine w_ldA e112_46 (fun _ => rfl) rfl ?_
            refine w_ldI e112_47 (fun _ => rfl) rfl ?_
            refine w_cv e112_48 (by decide) rfl e18 rfl (Nat.le_of_ble_eq_true rfl) (Nat.le_of_ble_eq_true rfl) (Nat.le_of_ble_eq_true rfl) (by decide) (by decide) (c111 hM6 hK (by omega) hI15.1.1.1 (by have h9 := hR16.2.1.2 i1 (by omega) (by omega); omega)) (fun o34 v35 hq36 => ?_)
            obtain ⟨rfl, q37, h38, rfl⟩ := hq36
            refine w_cv e112_51 (by decide) rfl e18 rfl (Nat.le_of_ble_eq_true rfl) (Nat.le_of_ble_eq_true rfl) (Nat.le_of_ble_eq_true rfl) (by decide) (by decide) (c85 hM6 hK (by omega) (by omega)) (fun o39 v40 hq41 => ?_)
            obtain ⟨rfl, rfl⟩ := hq41
            have hp42 := dgf_bd (al 244) (60 * (58 + i1)).toNat q37 (ai 242 (58 + i1).toNat).toNat
            refine w_x e112_54 (fun _ => rfl) ?_
            exact w_ri e112_91 rfl ⟨⟨sc5, ai, al, az, hM6, hK, hI15, hF14, hR16⟩, dgf (al 244) (60 * (58 + i1)).toNat q37 (ai 242 (58 + i1).toNat).toNat, (by omega), rfl⟩
        ·
          refine w_ldA e112_28 (fun _ => rfl) rfl ?_
          refine w_ldI e112_29 (fun _ => rfl) rfl ?_
          refine w_cv e112_30 (by decide) rfl e18 rfl (Nat.le_of_ble_eq_true rfl) (Nat.le_of_ble_eq_true rfl) (Nat.le_of_ble_eq_true rfl) (by decide) (by decide) (c111 hM6 hK (by omega) hI15.1.1.1 (by have h9 := hR16.2.1.2 i1 (by omega) (by omega); omega)) (fun o43 v44 hq45 => ?_)
          obtain ⟨rfl, q46, h47, rfl⟩ := hq45
          refine w_x e112_33 (fun _ => rfl) ?_
          exact w_ri e112_91 rfl ⟨⟨sc5, ai, al, az, hM6, hK, hI15, hF14, hR16⟩, q46, (by omega), rfl⟩
      ·
        refine w_kI e112_22 ?_
        exact w_ri e112_23 rfl ⟨⟨sc5, ai, al, az, hM6, hK, hI15, hF14, hR16⟩, -1, (by omega), rfl⟩
set_option maxRecDepth 100000 in
set_option maxHeartbeats 4000000 in
theorem c113_L {sc : Nat → Int} {ai : Nat → Nat → Int} {al : Nat → Nat → Int64} {az : Nat → Nat → Int32} {v0 : vm_H} (hK0 : tmok ai) (hI : gi sc ai al az) {i1 : Int} (hi_1 : -2147483648 ≤ i1 ∧ i1 < 2147483648) (hR : ri2 sc ai al az) : ∀ N : Nat, (∀ (vh : vm_H) (sc_ : Nat → Int) (x2 : Int) (x3 : Int), (tm sc_ ai al az v0 vh) → (tmok ai) → (gi sc_ ai al az) → (fr [0] [] 1 0 sc ai al az sc_ ai al az) → (0 ≤ x2 ∧ x2 ≤ x3) → (0 ≤ x3 ∧ x3 ≤ 16) → (ri2 sc_ ai al az) → (sc_ 4 = sc 4) → ((16 - x3 : Int).toNat < N) → vm_Wp 0 0 113 9 [some (.ref 238), some (.int (vz i1)), some (.int (vz x2)), some (.int (vz x3))] [] vh (vq_P 113 (fun r v1 => (∃ (sc1 : Nat → Int) (ai1 : Nat → Nat → Int) (al1 : Nat → Nat → Int64) (az1 : Nat → Nat → Int32), tm sc1 ai1 al1 az1 v0 v1 ∧ tmok ai1 ∧ gi sc1 ai1 al1 az1 ∧ fr [0] [] 1 0 sc ai al az sc1 ai1 al1 az1 ∧ (ri2 sc1 ai1 al1 az1)) ∧ ∃ q : Int, (-2147483648 ≤ q ∧ q < 2147483648) ∧ r = some (.int (vz q))))) := by
  have hF0 : fr [0] [] 1 0 sc ai al az sc ai al az := fr_0 _ _ _ _ _ _ _ _
  intro N
  induction N with
  | zero => exact (by intros; omega)
  | succ N ih =>
    ·
      intro vh sc_ x2 x3 hM hK hJ hF hx2 hx3 hi0 hi1 hN
      have hn8 := hJ.1.1
      refine w_ldI e113_9 (fun _ => rfl) rfl ?_
      refine w_ldA e113_10 (fun _ => rfl) rfl ?_
      have e18 := tm_o hM
      refine w_get e113_11 e18 rfl ?_
      refine w_ic e113_14 (by omega) (tm_s hM 4) (fun (h19 : sc_ 4 ≤ x3) => ?_) (fun (h19 : x3 < sc_ 4) => ?_)
      ·
        refine w_ldI e113_40 (fun _ => rfl) rfl ?_
        by_cases h20 : i1 < 0 ∨ 9 < i1
        ·
          refine w_swO (t := 171) e113_41 hi_1 h20 rfl ?_
          refine w_kI e113_171 ?_
          exact w_ri e113_172 rfl ⟨⟨sc_, ai, al, az, hM, hK, hJ, hF, hi0⟩, -1, (by omega), rfl⟩
        ·
          have h21 : i1 = 0 ∨ i1 = 1 ∨ i1 = 2 ∨ i1 = 3 ∨ i1 = 4 ∨ i1 = 5 ∨ i1 = 6 ∨ i1 = 7 ∨ i1 = 8 ∨ i1 = 9 := by omega
          rcases h21 with h21 | h21 | h21 | h21 | h21 | h21 | h21 | h21 | h21 | h21
          ·
            refine w_swI (t := 96) e113_41 hi_1 h20 (by rw [h21]; rfl) rfl ?_
            refine w_ldA e113_96 (fun _ => rfl) rfl ?_
            refine w_get e113_97 e18 rfl ?_
            exact w_ri e113_100 rfl ⟨⟨sc_, ai, al, az, hM, hK, hJ, hF, hi0⟩, sc_ 1, (tm_s hM 1), rfl⟩
          ·
            refine w_swI (t := 101) e113_41 hi_1 h20 (by rw [h21]; rfl) rfl ?_
            refine w_ldA e113_101 (fun _ => rfl) rfl ?_
            refine w_get e113_102 e18 rfl ?_
            exact w_ri e113_105 rfl ⟨⟨sc_, ai, al, az, hM, hK, hJ, hF, hi0⟩, sc_ 4, (tm_s hM 4), rfl⟩
          ·
            refine w_swI (t := 106) e113_41 hi_1 h20 (by rw [h21]; rfl) rfl ?_
            refine w_ldI e113_106 (fun _ => rfl) rfl ?_
            exact w_ri e113_107 rfl ⟨⟨sc_, ai, al, az, hM, hK, hJ, hF, hi0⟩, x2, (by omega), rfl⟩
          ·
            refine w_swI (t := 108) e113_41 hi_1 h20 (by rw [h21]; rfl) rfl ?_
            refine w_ldA e113_108 (fun _ => rfl) rfl ?_
            refine w_get e113_109 e18 rfl ?_
            exact w_ri e113_112 rfl ⟨⟨sc_, ai, al, az, hM, hK, hJ, hF, hi0⟩, sc_ 11, (tm_s hM 11), rfl⟩
          ·
            refine w_swI (t := 113) e113_41 hi_1 h20 (by rw [h21]; rfl) rfl ?_
            refine w_ldA e113_113 (fun _ => rfl) rfl ?_
            refine w_get e113_114 e18 rfl ?_
            exact w_ri e113_117 rfl ⟨⟨sc_, ai, al, az, hM, hK, hJ, hF, hi0⟩, sc_ 14, (tm_s hM 14), rfl⟩
          ·
            refine w_swI (t := 118) e113_41 hi_1 h20 (by rw [h21]; rfl) rfl ?_
            refine w_ldA e113_118 (fun _ => rfl) rfl ?_
            refine w_get e113_119 e18 rfl ?_
            exact w_ri e113_122 rfl ⟨⟨sc_, ai, al, az, hM, hK, hJ, hF, hi0⟩, sc_ 15, (tm_s hM 15), rfl⟩
          ·
            refine w_swI (t := 123) e113_41 hi_1 h20 (by rw [h21]; rfl) rfl ?_
            refine w_ldA e113_123 (fun _ => rfl) rfl ?_
            refine w_get e113_124 e18 rfl ?_
            exact w_ri e113_127 rfl ⟨⟨sc_, ai, al, az, hM, hK, hJ, hF, hi0⟩, sc_ 16, (tm_s hM 16), rfl⟩
          ·
            refine w_swI (t := 128) e113_41 hi_1 h20 (by rw [h21]; rfl) rfl ?_
            refine w_ldA e113_128 (fun _ => rfl) rfl ?_
            refine w_get e113_129 e18 rfl ?_
            exact w_ri e113_132 rfl ⟨⟨sc_, ai, al, az, hM, hK, hJ, hF, hi0⟩, sc_ 17, (tm_s hM 17), rfl⟩
          ·
            refine w_swI (t := 133) e113_41 hi_1 h20 (by rw [h21]; rfl) rfl ?_
            refine w_ldA e113_133 (fun _ => rfl) rfl ?_
            refine w_get e113_134 e18 rfl ?_
            refine w_if e113_137 (tm_s hM 13) (fun (h22 : sc_ 13 = 0) => ?_) (fun (h22 : sc_ 13 ≠ 0) => ?_)
            ·
              refine w_kI e113_150 ?_
              exact w_ri e113_151 rfl ⟨⟨sc_, ai, al, az, hM, hK, hJ, hF, hi0⟩, 0, (by omega), rfl⟩
            ·
              refine w_ldA e113_140 (fun _ => rfl) rfl ?_
              refine w_get e113_141 e18 rfl ?_
              refine w_kB e113_144 rfl ?_
              have e23 := tm_i hM (a := 242) (n := 72) rfl
              refine w_ald e113_146 e23 (by omega) (by omega) (by decide) ?_
              show vm_Wp _ _ _ 147 _ [.int (vz (ai 242 (68 : Int).toNat))] _ _
              have hk24 := hK.1 (68 : Int).toNat
              refine w_x e113_147 (fun _ => rfl) ?_
              exact w_ri e113_151 rfl ⟨⟨sc_, ai, al, az, hM, hK, hJ, hF, hi0⟩, ai 242 (68 : Int).toNat, (tm_r hM 242 (68 : Int).toNat), rfl⟩
          ·
            refine w_swI (t := 152) e113_41 hi_1 h20 (by rw [h21]; rfl) rfl ?_
            refine w_ldA e113_152 (fun _ => rfl) rfl ?_
            refine w_get e113_153 e18 rfl ?_
            refine w_if e113_156 (tm_s hM 12) (fun (h25 : sc_ 12 = 0) => ?_) (fun (h25 : sc_ 12 ≠ 0) => ?_)
            ·
              refine w_kI e113_169 ?_
              exact w_ri e113_170 rfl ⟨⟨sc_, ai, al, az, hM, hK, hJ, hF, hi0⟩, 0, (by omega), rfl⟩
            ·
              refine w_ldA e113_159 (fun _ => rfl) rfl ?_
              refine w_get e113_160 e18 rfl ?_
              refine w_kB e113_163 rfl ?_
              have e26 := tm_i hM (a := 242) (n := 72) rfl
              refine w_ald e113_165 e26 (by omega) (by omega) (by decide) ?_
              show vm_Wp _ _ _ 166 _ [.int (vz (ai 242 (67 : Int).toNat))] _ _
              have hk27 := hK.1 (67 : Int).toNat
              refine w_x e113_166 (fun _ => rfl) ?_
              exact w_ri e113_170 rfl ⟨⟨sc_, ai, al, az, hM, hK, hJ, hF, hi0⟩, ai 242 (67 : Int).toNat, (tm_r hM 242 (67 : Int).toNat), rfl⟩
      ·
        refine w_ldI e113_17 (fun _ => rfl) rfl ?_
        refine w_ldA e113_18 (fun _ => rfl) rfl ?_
        refine w_get e113_19 e18 rfl ?_
        refine w_ldI e113_22 (fun _ => rfl) rfl ?_
        have e28 := tm_z hM (a := 241) (n := 16) rfl
        refine w_zldO e113_23 e28 (by omega) (by omega) (by decide) (fun q29 h30 h31 => ?_)
        refine w_if e113_24 h30 (fun (h32 : q29 = 0) => ?_) (fun (h32 : q29 ≠ 0) => ?_)
        ·
          refine w_kI e113_31 ?_
          refine w_iadd e113_32 ?_
          refine w_stI (j := 2) (A1 := [some (.ref 238), some (.int (vz i1)), some (.int (vz (x2 + 0))), some (.int (vz x3))]) e113_33 (fun _ => rfl) (by decide) rfl ?_
          refine w_iinc (A1 := [some (.ref 238), some (.int (vz i1)), some (.int (vz (x2 + 0))), some (.int (vz (x3 + 1)))]) e113_34 rfl (by decide) rfl ?_
          refine w_x e113_37 (fun _ => rfl) ?_
          exact w_sub (A1 := [some (.ref 238), some (.int (vz i1)), some (.int (vz (x2 + 0))), some (.int (vz (x3 + 1)))]) (And.intro rfl (And.intro rfl (And.intro rfl (And.intro rfl trivial)))) ((ih) vh sc_ (x2 + 0) (x3 + 1) hM hK hJ hF (by omega) (by omega) hi0 (by omega) (by omega))
        ·
          refine w_kI e113_27 ?_
          refine w_x e113_28 (fun _ => rfl) ?_
          refine w_iadd e113_32 ?_
          refine w_stI (j := 2) (A1 := [some (.ref 238), some (.int (vz i1)), some (.int (vz (x2 + 1))), some (.int (vz x3))]) e113_33 (fun _ => rfl) (by decide) rfl ?_
          refine w_iinc (A1 := [some (.ref 238), some (.int (vz i1)), some (.int (vz (x2 + 1))), some (.int (vz (x3 + 1)))]) e113_34 rfl (by decide) rfl ?_
          refine w_x e113_37 (fun _ => rfl) ?_
          exact w_sub (A1 := [some (.ref 238), some (.int (vz i1)), some (.int (vz (x2 + 1))), some (.int (vz (x3 + 1)))]) (And.intro rfl (And.intro rfl (And.intro rfl (And.intro rfl trivial)))) ((ih) vh sc_ (x2 + 1) (x3 + 1) hM hK hJ hF (by omega) (by omega) hi0 (by omega) (by omega))
set_option maxRecDepth 100000 in
set_option maxHeartbeats 4000000 in
theorem c113 {sc : Nat → Int} {ai : Nat → Nat → Int} {al : Nat → Nat → Int64} {az : Nat → Nat → Int32} {v0 vh : vm_H} (hM : tm sc ai al az v0 vh) (hK : tmok ai) (hI : gi sc ai al az) {i1 : Int} (hi_1 : -2147483648 ≤ i1 ∧ i1 < 2147483648) (hR : ri2 sc ai al az) : vm_Rp 0 0 113 [.ref 238, .int (vz i1)] vh (fun r v1 => (∃ (sc1 : Nat → Int) (ai1 : Nat → Nat → Int) (al1 : Nat → Nat → Int64) (az1 : Nat → Nat → Int32), tm sc1 ai1 al1 az1 v0 v1 ∧ tmok ai1 ∧ gi sc1 ai1 al1 az1 ∧ fr [0] [] 1 0 sc ai al az sc1 ai1 al1 az1 ∧ (ri2 sc1 ai1 al1 az1)) ∧ ∃ q : Int, (-2147483648 ≤ q ∧ q < 2147483648) ∧ r = some (.int (vz q))) := by
  have hF0 : fr [0] [] 1 0 sc ai al az sc ai al az := fr_0 _ _ _ _ _ _ _ _
  have hn8 := hI.1.1
  refine w_in (m := 2) ?_
  show vm_Wp _ _ _ 0 [some (.ref 238), some (.int (vz i1)), none, none] [] _ _
  refine w_ldA e113_0 (fun _ => rfl) rfl ?_
  refine w_kI e113_1 ?_
  have e1 := tm_o hM
  refine w_put e113_2 e1 (Nat.le_of_ble_eq_true rfl) rfl (fun v4 b2 h3 => ?_)
  obtain ⟨sc5, hd7, hM6⟩ : ∃ z, z = u1 sc 0 (0) ∧ tm z ai al az v0 v4 := ⟨_, rfl, tm_ps 0 hM (by omega) b2 h3⟩
  have hs8 : sc5 0 = 0 := by rw [hd7]; exact u1_s
  have hs9 : sc5 1 = sc 1 := by rw [hd7]; exact u1_o (by decide)
  have hs10 : sc5 4 = sc 4 := by rw [hd7]; exact u1_o (by decide)
  have hs11 : sc5 11 = sc 11 := by rw [hd7]; exact u1_o (by decide)
  have hs12 : sc5 18 = sc 18 := by rw [hd7]; exact u1_o (by decide)
  have hs13 : sc5 38 = sc 38 := by rw [hd7]; exact u1_o (by decide)
  have hF14 : fr [0] [] 1 0 sc ai al az sc5 ai al az := fr_s hF0 hd7 rfl
  have hI15 : gi sc5 ai al az := gi_s hI hd7 (by decide) (by decide) (by decide)
  have hR16 := ri2_fr hR hK (fr_s (X := [0]) (Y := []) (lo := 1) (hi := 0) (fr_0 _ _ _ _ sc ai al az) hd7 rfl) rfl rfl rfl rfl rfl rfl rfl rfl rfl (by omega)
  have hS17 := sjk_fr hR.1 hK (fr_s (X := [0]) (Y := []) (lo := 1) (hi := 0) (fr_0 _ _ _ _ sc ai al az) hd7 rfl) rfl rfl
  refine w_kI e113_5 ?_
  refine w_stI (j := 2) (A1 := [some (.ref 238), some (.int (vz i1)), some (.int (vz 0)), none]) e113_6 (fun _ => rfl) (by decide) rfl ?_
  refine w_kI e113_7 ?_
  refine w_stI (j := 3) (A1 := [some (.ref 238), some (.int (vz i1)), some (.int (vz 0)), some (.int (vz 0))]) e113_8 (fun _ => rfl) (by decide) rfl ?_
  exact w_sub (A1 := [some (.ref 238), some (.int (vz i1)), some (.int (vz 0)), some (.int (vz 0))]) (And.intro rfl (And.intro rfl (And.intro rfl (And.intro rfl trivial)))) (((c113_L (sc := sc) (ai := ai) (al := al) (az := az) (v0 := v0) (i1 := i1) hK hI hi_1 hR _)) v4 sc5 0 0 hM6 hK hI15 hF14 (by omega) (by omega) hR16 (by omega) (Nat.lt_succ_self _))
set_option maxRecDepth 100000 in
set_option maxHeartbeats 4000000 in
theorem c114 {sc : Nat → Int} {ai : Nat → Nat → Int} {al : Nat → Nat → Int64} {az : Nat → Nat → Int32} {v0 vh : vm_H} (hM : tm sc ai al az v0 vh) (hK : tmok ai) (hI : gi sc ai al az) {i1 : Int} (hi_1 : -2147483648 ≤ i1 ∧ i1 < 2147483648) {i2 : Int} (hi_2 : -2147483648 ≤ i2 ∧ i2 < 2147483648) (hR : ri2 sc ai al az) : vm_Rp 4 90 114 [.ref 238, .int (vz i1), .int (vz i2)] vh (fun r v1 => (∃ (sc1 : Nat → Int) (ai1 : Nat → Nat → Int) (al1 : Nat → Nat → Int64) (az1 : Nat → Nat → Int32), tm sc1 ai1 al1 az1 v0 v1 ∧ tmok ai1 ∧ gi sc1 ai1 al1 az1 ∧ fr [] [] 70 70 sc ai al az sc1 ai1 al1 az1 ∧ (ri2 sc1 ai1 al1 az1)) ∧ ∃ q : Int, ((-1 ≤ q ∧ q < 72) ∧ ((i1 = 2 ∧ 0 ≤ i2 ∧ i2 < sc 11) → q = 70)) ∧ r = some (.int (vz q))) := by
  have hF0 : fr [] [] 70 70 sc ai al az sc ai al az := fr_0 _ _ _ _ _ _ _ _
  have hn8 := hI.1.1
  have hm8 := hR.2.1.1
  refine w_in (m := 0) ?_
  show vm_Wp _ _ _ 0 [some (.ref 238), some (.int (vz i1)), some (.int (vz i2))] [] _ _
  refine w_ldI e114_0 (fun _ => rfl) rfl ?_
  by_cases h1 : i1 < 0 ∨ 4 < i1
  ·
    refine w_swO (t := 142) e114_1 hi_1 h1 rfl ?_
    refine w_kI e114_142 ?_
    exact w_ri e114_143 rfl ⟨⟨sc, ai, al, az, hM, hK, hI, hF0, hR⟩, -1, (by omega), rfl⟩
  ·
    have h2 : i1 = 0 ∨ i1 = 1 ∨ i1 = 2 ∨ i1 = 3 ∨ i1 = 4 := by omega
    rcases h2 with h2 | h2 | h2 | h2 | h2
    ·
      refine w_swI (t := 36) e114_1 hi_1 h1 (by rw [h2]; rfl) rfl ?_
      refine w_ldA e114_36 (fun _ => rfl) rfl ?_
      refine w_ldI e114_37 (fun _ => rfl) rfl ?_
      have e3 := tm_o hM
      refine w_cv e114_38 (by decide) rfl e3 rfl (Nat.le_of_ble_eq_true rfl) (Nat.le_of_ble_eq_true rfl) (Nat.le_of_ble_eq_true rfl) (by decide) (by decide) (c103 hM hK hi_2) (fun o4 v5 hq6 => ?_)
      obtain ⟨rfl, q7, h8, rfl⟩ := hq6
      refine w_if e114_41 (by omega) (fun (h9 : q7 = 0) => ?_) (fun (h9 : q7 ≠ 0) => ?_)
      ·
        refine w_ldI e114_48 (fun _ => rfl) rfl ?_
        exact w_ri e114_49 rfl ⟨⟨sc, ai, al, az, hM, hK, hI, hF0, hR⟩, i2, (by omega), rfl⟩
      ·
        refine w_kI e114_44 ?_
        refine w_x e114_45 (fun _ => rfl) ?_
        exact w_ri e114_49 rfl ⟨⟨sc, ai, al, az, hM, hK, hI, hF0, hR⟩, -1, (by omega), rfl⟩
    ·
      refine w_swI (t := 50) e114_1 hi_1 h1 (by rw [h2]; rfl) rfl ?_
      refine w_ldA e114_50 (fun _ => rfl) rfl ?_
      refine w_ldI e114_51 (fun _ => rfl) rfl ?_
      have e10 := tm_o hM
      refine w_cv e114_52 (by decide) rfl e10 rfl (Nat.le_of_ble_eq_true rfl) (Nat.le_of_ble_eq_true rfl) (Nat.le_of_ble_eq_true rfl) (by decide) (by decide) (c110 hM hK hi_2) (fun o11 v12 hq13 => ?_)
      obtain ⟨rfl, q14, h15, rfl⟩ := hq13
      refine w_if e114_55 (by omega) (fun (h16 : q14 = 0) => ?_) (fun (h16 : q14 ≠ 0) => ?_)
      ·
        refine w_kB e114_62 rfl ?_
        refine w_ldI e114_64 (fun _ => rfl) rfl ?_
        refine w_iadd e114_65 ?_
        exact w_ri e114_66 rfl ⟨⟨sc, ai, al, az, hM, hK, hI, hF0, hR⟩, 58 + i2, (by omega), rfl⟩
      ·
        refine w_kI e114_58 ?_
        refine w_x e114_59 (fun _ => rfl) ?_
        exact w_ri e114_66 rfl ⟨⟨sc, ai, al, az, hM, hK, hI, hF0, hR⟩, -1, (by omega), rfl⟩
    ·
      refine w_swI (t := 67) e114_1 hi_1 h1 (by rw [h2]; rfl) rfl ?_
      refine w_ldA e114_67 (fun _ => rfl) rfl ?_
      refine w_ldI e114_68 (fun _ => rfl) rfl ?_
      have e17 := tm_o hM
      refine w_cv e114_69 (by decide) rfl e17 rfl (Nat.le_of_ble_eq_true rfl) (Nat.le_of_ble_eq_true rfl) (Nat.le_of_ble_eq_true rfl) (by decide) (by decide) (c110 hM hK hi_2) (fun o18 v19 hq20 => ?_)
      obtain ⟨rfl, q21, h22, rfl⟩ := hq20
      refine w_if e114_72 (by omega) (fun (h23 : q21 = 0) => ?_) (fun (h23 : q21 ≠ 0) => ?_)
      ·
        refine w_ldA e114_77 (fun _ => rfl) rfl ?_
        refine w_kB e114_78 rfl ?_
        refine w_ldI e114_80 (fun _ => rfl) rfl ?_
        refine w_iadd e114_81 ?_
        refine w_ldA e114_82 (fun _ => rfl) rfl ?_
        refine w_ldI e114_83 (fun _ => rfl) rfl ?_
        refine w_cv e114_84 (by decide) rfl e17 rfl (Nat.le_of_ble_eq_true rfl) (Nat.le_of_ble_eq_true rfl) (Nat.le_of_ble_eq_true rfl) (by decide) (by decide) (c111 hM hK (by omega) hI.1.1.1 (by have h9 := hR.2.1.2 i2 (by omega) (by omega); omega)) (fun o24 v25 hq26 => ?_)
        obtain ⟨rfl, q27, h28, rfl⟩ := hq26
        refine w_ldA e114_87 (fun _ => rfl) rfl ?_
        refine w_kB e114_88 rfl ?_
        refine w_ldI e114_90 (fun _ => rfl) rfl ?_
        refine w_iadd e114_91 ?_
        refine w_ldA e114_92 (fun _ => rfl) rfl ?_
        refine w_ldI e114_93 (fun _ => rfl) rfl ?_
        refine w_cv e114_94 (by decide) rfl e17 rfl (Nat.le_of_ble_eq_true rfl) (Nat.le_of_ble_eq_true rfl) (Nat.le_of_ble_eq_true rfl) (by decide) (by decide) (c111 hM hK (by omega) hI.1.1.1 (by have h9 := hR.2.1.2 i2 (by omega) (by omega); omega)) (fun o29 v30 hq31 => ?_)
        obtain ⟨rfl, q32, h33, rfl⟩ := hq31
        refine w_cv e114_97 (by decide) rfl e17 rfl (Nat.le_of_ble_eq_true rfl) (Nat.le_of_ble_eq_true rfl) (Nat.le_of_ble_eq_true rfl) (by decide) (by decide) (c85 hM hK (by omega) (by omega)) (fun o34 v35 hq36 => ?_)
        obtain ⟨rfl, rfl⟩ := hq36
        have hp37 := dgf_bd (al 244) (60 * (58 + i2)).toNat q32 (ai 242 (58 + i2).toNat).toNat
        refine w_cv e114_100 (by decide) rfl e17 rfl (Nat.le_of_ble_eq_true rfl) (Nat.le_of_ble_eq_true rfl) (Nat.le_of_ble_eq_true rfl) (by decide) (by decide) (k87 hM hK hI (by omega) (by omega) (by omega) (by omega)) (fun o38 v39 hq40 => ?_)
        obtain ⟨⟨sc41, ai42, al43, az44, hM45, hK46, hI47, hG48, hE49⟩, rfl⟩ := hq40
        have hs50 : sc41 0 = sc 0 := hG48.1 0 rfl
        have hs51 : sc41 1 = sc 1 := hG48.1 1 rfl
        have hs52 : sc41 4 = sc 4 := hG48.1 4 rfl
        have hs53 : sc41 11 = sc 11 := hG48.1 11 rfl
        have hs54 : sc41 18 = sc 18 := hG48.1 18 rfl
        have hs55 : sc41 38 = sc 38 := hG48.1 38 rfl
        have hF56 : fr [] [] 70 70 sc ai al az sc41 ai42 al43 az44 := fr_t hF0 hG48 rfl rfl (by omega)
        have hR57 := ri2_fr hR hK hG48 rfl rfl rfl rfl rfl rfl rfl rfl rfl (by omega)
        have hS58 := sjk_fr hR.1 hK hG48 rfl rfl
        refine w_kB e114_103 rfl ?_
        exact w_ri e114_105 rfl ⟨⟨sc41, ai42, al43, az44, hM45, hK46, hI47, hF56, hR57⟩, 70, (by omega), rfl⟩
      ·
        refine w_kI e114_75 ?_
        exact w_ri e114_76 rfl ⟨⟨sc, ai, al, az, hM, hK, hI, hF0, hR⟩, -1, (by omega), rfl⟩
    ·
      refine w_swI (t := 106) e114_1 hi_1 h1 (by rw [h2]; rfl) rfl ?_
      refine w_ldI e114_106 (fun _ => rfl) rfl ?_
      refine w_if e114_107 hi_2 (fun (h59 : i2 ≠ 0) => ?_) (fun (h59 : i2 = 0) => ?_)
      ·
        refine w_kI e114_122 ?_
        exact w_ri e114_123 rfl ⟨⟨sc, ai, al, az, hM, hK, hI, hF0, hR⟩, -1, (by omega), rfl⟩
      ·
        refine w_ldA e114_110 (fun _ => rfl) rfl ?_
        have e60 := tm_o hM
        refine w_get e114_111 e60 rfl ?_
        refine w_if e114_114 (tm_s hM 12) (fun (h61 : sc 12 = 0) => ?_) (fun (h61 : sc 12 ≠ 0) => ?_)
        ·
          refine w_kI e114_122 ?_
          exact w_ri e114_123 rfl ⟨⟨sc, ai, al, az, hM, hK, hI, hF0, hR⟩, -1, (by omega), rfl⟩
        ·
          refine w_kB e114_117 rfl ?_
          refine w_x e114_119 (fun _ => rfl) ?_
          exact w_ri e114_123 rfl ⟨⟨sc, ai, al, az, hM, hK, hI, hF0, hR⟩, 67, (by omega), rfl⟩
    ·
      refine w_swI (t := 124) e114_1 hi_1 h1 (by rw [h2]; rfl) rfl ?_
      refine w_ldI e114_124 (fun _ => rfl) rfl ?_
      refine w_if e114_125 hi_2 (fun (h62 : i2 ≠ 0) => ?_) (fun (h62 : i2 = 0) => ?_)
      ·
        refine w_kI e114_140 ?_
        exact w_ri e114_141 rfl ⟨⟨sc, ai, al, az, hM, hK, hI, hF0, hR⟩, -1, (by omega), rfl⟩
      ·
        refine w_ldA e114_128 (fun _ => rfl) rfl ?_
        have e63 := tm_o hM
        refine w_get e114_129 e63 rfl ?_
        refine w_if e114_132 (tm_s hM 13) (fun (h64 : sc 13 = 0) => ?_) (fun (h64 : sc 13 ≠ 0) => ?_)
        ·
          refine w_kI e114_140 ?_
          exact w_ri e114_141 rfl ⟨⟨sc, ai, al, az, hM, hK, hI, hF0, hR⟩, -1, (by omega), rfl⟩
        ·
          refine w_kB e114_135 rfl ?_
          refine w_x e114_137 (fun _ => rfl) ?_
          exact w_ri e114_141 rfl ⟨⟨sc, ai, al, az, hM, hK, hI, hF0, hR⟩, 68, (by omega), rfl⟩
set_option maxRecDepth 100000 in
set_option maxHeartbeats 4000000 in
theorem c115 {sc : Nat → Int} {ai : Nat → Nat → Int} {al : Nat → Nat → Int64} {az : Nat → Nat → Int32} {v0 vh : vm_H} (hM : tm sc ai al az v0 vh) (hK : tmok ai) (hI : gi sc ai al az) {i1 : Int} (hi_1 : -2147483648 ≤ i1 ∧ i1 < 2147483648) {i2 : Int} (hi_2 : -2147483648 ≤ i2 ∧ i2 < 2147483648) {i3 : Int} (hi_3 : -2147483648 ≤ i3 ∧ i3 < 2147483648) (hR : ri2 sc ai al az) : vm_Rp 5 112 115 [.ref 238, .int (vz i1), .int (vz i2), .int (vz i3)] vh (fun r v1 => (∃ (sc1 : Nat → Int) (ai1 : Nat → Nat → Int) (al1 : Nat → Nat → Int64) (az1 : Nat → Nat → Int32), tm sc1 ai1 al1 az1 v0 v1 ∧ tmok ai1 ∧ gi sc1 ai1 al1 az1 ∧ fr [0] [] 70 70 sc ai al az sc1 ai1 al1 az1 ∧ (ri2 sc1 ai1 al1 az1)) ∧ ∃ q : Int64, r = some (.long q)) := by
  have hF0 : fr [0] [] 70 70 sc ai al az sc ai al az := fr_0 _ _ _ _ _ _ _ _
  have hn8 := hI.1.1
  have hm8 := hR.2.1.1
  refine w_in (m := 1) ?_
  show vm_Wp _ _ _ 0 [some (.ref 238), some (.int (vz i1)), some (.int (vz i2)), some (.int (vz i3)), none] [] _ _
  refine w_ldA e115_0 (fun _ => rfl) rfl ?_
  refine w_kI e115_1 ?_
  have e1 := tm_o hM
  refine w_put e115_2 e1 (Nat.le_of_ble_eq_true rfl) rfl (fun v4 b2 h3 => ?_)
  obtain ⟨sc5, hd7, hM6⟩ : ∃ z, z = u1 sc 0 (0) ∧ tm z ai al az v0 v4 := ⟨_, rfl, tm_ps 0 hM (by omega) b2 h3⟩
  have hs8 : sc5 0 = 0 := by rw [hd7]; exact u1_s
  have hs9 : sc5 1 = sc 1 := by rw [hd7]; exact u1_o (by decide)
  have hs10 : sc5 4 = sc 4 := by rw [hd7]; exact u1_o (by decide)
  have hs11 : sc5 11 = sc 11 := by rw [hd7]; exact u1_o (by decide)
  have hs12 : sc5 18 = sc 18 := by rw [hd7]; exact u1_o (by decide)
  have hs13 : sc5 38 = sc 38 := by rw [hd7]; exact u1_o (by decide)
  have hF14 : fr [0] [] 70 70 sc ai al az sc5 ai al az := fr_s hF0 hd7 rfl
  have hI15 : gi sc5 ai al az := gi_s hI hd7 (by decide) (by decide) (by decide)
  have hR16 := ri2_fr hR hK (fr_s (X := [0]) (Y := []) (lo := 1) (hi := 0) (fr_0 _ _ _ _ sc ai al az) hd7 rfl) rfl rfl rfl rfl rfl rfl rfl rfl rfl (by omega)
  have hS17 := sjk_fr hR.1 hK (fr_s (X := [0]) (Y := []) (lo := 1) (hi := 0) (fr_0 _ _ _ _ sc ai al az) hd7 rfl) rfl rfl
  refine w_ldA e115_5 (fun _ => rfl) rfl ?_
  refine w_ldI e115_6 (fun _ => rfl) rfl ?_
  refine w_ldI e115_7 (fun _ => rfl) rfl ?_
  have e18 := tm_o hM6
  refine w_cv e115_8 (by decide) rfl e18 rfl (Nat.le_of_ble_eq_true rfl) (Nat.le_of_ble_eq_true rfl) (Nat.le_of_ble_eq_true rfl) (by decide) (by decide) (c114 hM6 hK hI15 hi_1 hi_2 hR16) (fun o19 v20 hq21 => ?_)
  obtain ⟨⟨sc22, ai23, al24, az25, hM26, hK27, hI28, hG29, hE30⟩, q31, h32, rfl⟩ := hq21
  have hs33 : sc22 0 = sc5 0 := hG29.1 0 rfl
  have hs34 : sc22 1 = sc5 1 := hG29.1 1 rfl
  have hs35 : sc22 4 = sc5 4 := hG29.1 4 rfl
  have hs36 : sc22 11 = sc5 11 := hG29.1 11 rfl
  have hs37 : sc22 18 = sc5 18 := hG29.1 18 rfl
  have hs38 : sc22 38 = sc5 38 := hG29.1 38 rfl
  have hF39 : fr [0] [] 70 70 sc ai al az sc22 ai23 al24 az25 := fr_t hF14 hG29 rfl rfl (by omega)
  have hR40 := ri2_fr hR16 hK hG29 rfl rfl rfl rfl rfl rfl rfl rfl rfl (by omega)
  have hS41 := sjk_fr hS17 hK hG29 rfl rfl
  refine w_stI (j := 4) (A1 := [some (.ref 238), some (.int (vz i1)), some (.int (vz i2)), some (.int (vz i3)), some (.int (vz q31))]) e115_11 (fun _ => rfl) (by decide) rfl ?_
  refine w_ldI e115_13 (fun _ => rfl) rfl ?_
  refine w_if e115_15 (by omega) (fun (h42 : q31 < 0) => ?_) (fun (h42 : 0 ≤ q31) => ?_)
  ·
    refine w_oL e115_33 (fun _ => rfl) (fun l43 => ?_)
    refine w_x e115_34 (fun _ => rfl) ?_
    exact w_rl e115_49 rfl ⟨⟨sc22, ai23, al24, az25, hM26, hK27, hI28, hF39, hR40⟩, _, rfl⟩
  ·
    refine w_ldI e115_18 (fun _ => rfl) rfl ?_
    refine w_if e115_19 hi_3 (fun (h44 : i3 < 0) => ?_) (fun (h44 : 0 ≤ i3) => ?_)
    ·
      refine w_oL e115_33 (fun _ => rfl) (fun l45 => ?_)
      refine w_x e115_34 (fun _ => rfl) ?_
      exact w_rl e115_49 rfl ⟨⟨sc22, ai23, al24, az25, hM26, hK27, hI28, hF39, hR40⟩, _, rfl⟩
    ·
      refine w_ldI e115_22 (fun _ => rfl) rfl ?_
      refine w_ldA e115_23 (fun _ => rfl) rfl ?_
      have e46 := tm_o hM26
      refine w_get e115_24 e46 rfl ?_
      refine w_ldI e115_27 (fun _ => rfl) rfl ?_
      have e47 := tm_i hM26 (a := 242) (n := 72) rfl
      refine w_ald e115_29 e47 (by omega) (by omega) (by decide) ?_
      show vm_Wp _ _ _ 30 _ [.int (vz (ai23 242 (q31).toNat)), .int (vz i3)] _ _
      have hk48 := hK27.1 (q31).toNat
      refine w_ic e115_30 hi_3 (tm_r hM26 242 (q31).toNat) (fun (h49 : i3 < ai23 242 (q31).toNat) => ?_) (fun (h49 : ai23 242 (q31).toNat ≤ i3) => ?_)
      ·
        refine w_ldA e115_37 (fun _ => rfl) rfl ?_
        refine w_get e115_38 e46 rfl ?_
        refine w_kB e115_41 rfl ?_
        refine w_ldI e115_43 (fun _ => rfl) rfl ?_
        refine w_imul e115_45 ?_
        refine w_ldI e115_46 (fun _ => rfl) rfl ?_
        refine w_iadd e115_47 ?_
        have e50 := tm_l hM26 (a := 243) (n := 4320) rfl
        refine w_lldO e115_48 e50 (by omega) (by omega) (by decide) (fun l51 => ?_)
        exact w_rl e115_49 rfl ⟨⟨sc22, ai23, al24, az25, hM26, hK27, hI28, hF39, hR40⟩, _, rfl⟩
      ·
        refine w_oL e115_33 (fun _ => rfl) (fun l52 => ?_)
        refine w_x e115_34 (fun _ => rfl) ?_
        exact w_rl e115_49 rfl ⟨⟨sc22, ai23, al24, az25, hM26, hK27, hI28, hF39, hR40⟩, _, rfl⟩
set_option maxRecDepth 100000 in
set_option maxHeartbeats 4000000 in
theorem c116_L {sc : Nat → Int} {ai : Nat → Nat → Int} {al : Nat → Nat → Int64} {az : Nat → Nat → Int32} {v0 : vm_H} (hK0 : tmok ai) (hI : gi sc ai al az) {i1 : Int} (hi_1 : -2147483648 ≤ i1 ∧ i1 < 2147483648) {i2 : Int} (hi_2 : -2147483648 ≤ i2 ∧ i2 < 2147483648) {i3 : Int} (hi_3 : -2147483648 ≤ i3 ∧ i3 < 2147483648) (hR : ri2 sc ai al az) : ∀ N : Nat, (∀ (vh : vm_H) (sc_ : Nat → Int) (ai_ : Nat → Nat → Int) (al_ : Nat → Nat → Int64) (az_ : Nat → Nat → Int32) (x4 : Int) (x5 : Int) (x6 : Int), (tm sc_ ai_ al_ az_ v0 vh) → (tmok ai_) → (gi sc_ ai_ al_ az_) → (fr [0] [] 70 70 sc ai al az sc_ ai_ al_ az_) → (0 ≤ x4 ∧ x4 < 72) → (-2147483648 ≤ x5 ∧ x5 < 2147483648) → (0 ≤ x6 ∧ x6 ≤ 8) → (ri2 sc_ ai_ al_ az_) → (0 ≤ i3 ∧ i3 < ai_ 242 (x4).toNat ∧ ai_ 242 (x4).toNat ≤ 60) → ((8 - x6 : Int).toNat < N) → vm_Wp 5 112 116 41 [some (.ref 238), some (.int (vz i1)), some (.int (vz i2)), some (.int (vz i3)), some (.int (vz x4)), some (.int (vz x5)), some (.int (vz x6))] [] vh (vq_P 116 (fun r v1 => (∃ (sc1 : Nat → Int) (ai1 : Nat → Nat → Int) (al1 : Nat → Nat → Int64) (az1 : Nat → Nat → Int32), tm sc1 ai1 al1 az1 v0 v1 ∧ tmok ai1 ∧ gi sc1 ai1 al1 az1 ∧ fr [0] [] 70 70 sc ai al az sc1 ai1 al1 az1 ∧ (ri2 sc1 ai1 al1 az1)) ∧ ∃ q : Int, (-2147483648 ≤ q ∧ q < 2147483648) ∧ r = some (.int (vz q))))) := by
  have hF0 : fr [0] [] 70 70 sc ai al az sc ai al az := fr_0 _ _ _ _ _ _ _ _
  intro N
  induction N with
  | zero => exact (by intros; omega)
  | succ N ih =>
    ·
      intro vh sc_ ai_ al_ az_ x4 x5 x6 hM hK hJ hF hx4 hx5 hx6 hi0 hi1 hN
      refine w_ldI e116_41 (fun _ => rfl) rfl ?_
      refine w_kB e116_43 rfl ?_
      refine w_ic e116_45 (by omega) (by omega) (fun (h48 : 8 ≤ x6) => ?_) (fun (h48 : x6 < 8) => ?_)
      ·
        refine w_ldI e116_81 (fun _ => rfl) rfl ?_
        exact w_ri e116_83 rfl ⟨⟨sc_, ai_, al_, az_, hM, hK, hJ, hF, hi0⟩, x5, hx5, rfl⟩
      ·
        refine w_ldI e116_48 (fun _ => rfl) rfl ?_
        refine w_ldA e116_50 (fun _ => rfl) rfl ?_
        have e49 := tm_o hM
        refine w_get e116_51 e49 rfl ?_
        refine w_kB e116_54 rfl ?_
        refine w_ldI e116_56 (fun _ => rfl) rfl ?_
        refine w_imul e116_58 ?_
        refine w_ldI e116_59 (fun _ => rfl) rfl ?_
        refine w_iadd e116_60 ?_
        have e50 := tm_l hM (a := 244) (n := 4320) rfl
        refine w_lldO e116_61 e50 (by omega) (by omega) (by decide) (fun l51 => ?_)
        refine w_ldI e116_62 (fun _ => rfl) rfl ?_
        refine w_cs e116_64 (by decide) (Nat.le_of_ble_eq_true rfl) (Nat.le_of_ble_eq_true rfl) (Nat.le_of_ble_eq_true rfl) (by decide) (by decide) (c78 (by omega)) (fun o52 v53 hq54 => ?_)
        obtain ⟨rfl, rfl⟩ := hq54
        have hp55 := pw_bd l51 x6
        refine w_kI e116_67 ?_
        refine w_ldI e116_68 (fun _ => rfl) rfl ?_
        refine w_imul e116_70 ?_
        refine w_oI e116_71 (fun _ => rfl) (fun q56 h57 => ?_)
        refine w_oI e116_72 (fun _ => rfl) (fun q58 h59 => ?_)
        refine w_stI (j := 5) (A1 := [some (.ref 238), some (.int (vz i1)), some (.int (vz i2)), some (.int (vz i3)), some (.int (vz x4)), some (.int (vz q58)), some (.int (vz x6))]) e116_73 (fun _ => rfl) (by decide) rfl ?_
        refine w_iinc (A1 := [some (.ref 238), some (.int (vz i1)), some (.int (vz i2)), some (.int (vz i3)), some (.int (vz x4)), some (.int (vz q58)), some (.int (vz (x6 + 1)))]) e116_75 rfl (by decide) rfl ?_
        refine w_x e116_78 (fun _ => rfl) ?_
        exact w_sub (A1 := [some (.ref 238), some (.int (vz i1)), some (.int (vz i2)), some (.int (vz i3)), some (.int (vz x4)), some (.int (vz q58)), some (.int (vz (x6 + 1)))]) (And.intro rfl (And.intro rfl (And.intro rfl (And.intro rfl (And.intro rfl (And.intro rfl (And.intro rfl trivial))))))) ((ih) vh sc_ ai_ al_ az_ x4 q58 (x6 + 1) hM hK hJ hF (by omega) h59 (by omega) hi0 (by omega) (by omega))
set_option maxRecDepth 100000 in
set_option maxHeartbeats 4000000 in
theorem c116 {sc : Nat → Int} {ai : Nat → Nat → Int} {al : Nat → Nat → Int64} {az : Nat → Nat → Int32} {v0 vh : vm_H} (hM : tm sc ai al az v0 vh) (hK : tmok ai) (hI : gi sc ai al az) {i1 : Int} (hi_1 : -2147483648 ≤ i1 ∧ i1 < 2147483648) {i2 : Int} (hi_2 : -2147483648 ≤ i2 ∧ i2 < 2147483648) {i3 : Int} (hi_3 : -2147483648 ≤ i3 ∧ i3 < 2147483648) (hR : ri2 sc ai al az) : vm_Rp 5 112 116 [.ref 238, .int (vz i1), .int (vz i2), .int (vz i3)] vh (fun r v1 => (∃ (sc1 : Nat → Int) (ai1 : Nat → Nat → Int) (al1 : Nat → Nat → Int64) (az1 : Nat → Nat → Int32), tm sc1 ai1 al1 az1 v0 v1 ∧ tmok ai1 ∧ gi sc1 ai1 al1 az1 ∧ fr [0] [] 70 70 sc ai al az sc1 ai1 al1 az1 ∧ (ri2 sc1 ai1 al1 az1)) ∧ ∃ q : Int, (-2147483648 ≤ q ∧ q < 2147483648) ∧ r = some (.int (vz q))) := by
  have hF0 : fr [0] [] 70 70 sc ai al az sc ai al az := fr_0 _ _ _ _ _ _ _ _
  have hn8 := hI.1.1
  have hm8 := hR.2.1.1
  refine w_in (m := 3) ?_
  show vm_Wp _ _ _ 0 [some (.ref 238), some (.int (vz i1)), some (.int (vz i2)), some (.int (vz i3)), none, none, none] [] _ _
  refine w_ldA e116_0 (fun _ => rfl) rfl ?_
  refine w_kI e116_1 ?_
  have e1 := tm_o hM
  refine w_put e116_2 e1 (Nat.le_of_ble_eq_true rfl) rfl (fun v4 b2 h3 => ?_)
  obtain ⟨sc5, hd7, hM6⟩ : ∃ z, z = u1 sc 0 (0) ∧ tm z ai al az v0 v4 := ⟨_, rfl, tm_ps 0 hM (by omega) b2 h3⟩
  have hs8 : sc5 0 = 0 := by rw [hd7]; exact u1_s
  have hs9 : sc5 1 = sc 1 := by rw [hd7]; exact u1_o (by decide)
  have hs10 : sc5 4 = sc 4 := by rw [hd7]; exact u1_o (by decide)
  have hs11 : sc5 11 = sc 11 := by rw [hd7]; exact u1_o (by decide)
  have hs12 : sc5 18 = sc 18 := by rw [hd7]; exact u1_o (by decide)
  have hs13 : sc5 38 = sc 38 := by rw [hd7]; exact u1_o (by decide)
  have hF14 : fr [0] [] 70 70 sc ai al az sc5 ai al az := fr_s hF0 hd7 rfl
  have hI15 : gi sc5 ai al az := gi_s hI hd7 (by decide) (by decide) (by decide)
  have hR16 := ri2_fr hR hK (fr_s (X := [0]) (Y := []) (lo := 1) (hi := 0) (fr_0 _ _ _ _ sc ai al az) hd7 rfl) rfl rfl rfl rfl rfl rfl rfl rfl rfl (by omega)
  have hS17 := sjk_fr hR.1 hK (fr_s (X := [0]) (Y := []) (lo := 1) (hi := 0) (fr_0 _ _ _ _ sc ai al az) hd7 rfl) rfl rfl
  refine w_ldA e116_5 (fun _ => rfl) rfl ?_
  refine w_ldI e116_6 (fun _ => rfl) rfl ?_
  refine w_ldI e116_7 (fun _ => rfl) rfl ?_
  have e18 := tm_o hM6
  refine w_cv e116_8 (by decide) rfl e18 rfl (Nat.le_of_ble_eq_true rfl) (Nat.le_of_ble_eq_true rfl) (Nat.le_of_ble_eq_true rfl) (by decide) (by decide) (c114 hM6 hK hI15 hi_1 hi_2 hR16) (fun o19 v20 hq21 => ?_)
  obtain ⟨⟨sc22, ai23, al24, az25, hM26, hK27, hI28, hG29, hE30⟩, q31, h32, rfl⟩ := hq21
  have hs33 : sc22 0 = sc5 0 := hG29.1 0 rfl
  have hs34 : sc22 1 = sc5 1 := hG29.1 1 rfl
  have hs35 : sc22 4 = sc5 4 := hG29.1 4 rfl
  have hs36 : sc22 11 = sc5 11 := hG29.1 11 rfl
  have hs37 : sc22 18 = sc5 18 := hG29.1 18 rfl
  have hs38 : sc22 38 = sc5 38 := hG29.1 38 rfl
  have hF39 : fr [0] [] 70 70 sc ai al az sc22 ai23 al24 az25 := fr_t hF14 hG29 rfl rfl (by omega)
  have hR40 := ri2_fr hR16 hK hG29 rfl rfl rfl rfl rfl rfl rfl rfl rfl (by omega)
  have hS41 := sjk_fr hS17 hK hG29 rfl rfl
  refine w_stI (j := 4) (A1 := [some (.ref 238), some (.int (vz i1)), some (.int (vz i2)), some (.int (vz i3)), some (.int (vz q31)), none, none]) e116_11 (fun _ => rfl) (by decide) rfl ?_
  refine w_ldI e116_13 (fun _ => rfl) rfl ?_
  refine w_if e116_15 (by omega) (fun (h42 : q31 < 0) => ?_) (fun (h42 : 0 ≤ q31) => ?_)
  ·
    refine w_kI e116_33 ?_
    exact w_ri e116_34 rfl ⟨⟨sc22, ai23, al24, az25, hM26, hK27, hI28, hF39, hR40⟩, -1, (by omega), rfl⟩
  ·
    refine w_ldI e116_18 (fun _ => rfl) rfl ?_
    refine w_if e116_19 hi_3 (fun (h43 : i3 < 0) => ?_) (fun (h43 : 0 ≤ i3) => ?_)
    ·
      refine w_kI e116_33 ?_
      exact w_ri e116_34 rfl ⟨⟨sc22, ai23, al24, az25, hM26, hK27, hI28, hF39, hR40⟩, -1, (by omega), rfl⟩
    ·
      refine w_ldI e116_22 (fun _ => rfl) rfl ?_
      refine w_ldA e116_23 (fun _ => rfl) rfl ?_
      have e44 := tm_o hM26
      refine w_get e116_24 e44 rfl ?_
      refine w_ldI e116_27 (fun _ => rfl) rfl ?_
      have e45 := tm_i hM26 (a := 242) (n := 72) rfl
      refine w_ald e116_29 e45 (by omega) (by omega) (by decide) ?_
      show vm_Wp _ _ _ 30 _ [.int (vz (ai23 242 (q31).toNat)), .int (vz i3)] _ _
      have hk46 := hK27.1 (q31).toNat
      refine w_ic e116_30 hi_3 (tm_r hM26 242 (q31).toNat) (fun (h47 : i3 < ai23 242 (q31).toNat) => ?_) (fun (h47 : ai23 242 (q31).toNat ≤ i3) => ?_)
      ·
        refine w_kI e116_35 ?_
        refine w_stI (j := 5) (A1 := [some (.ref 238), some (.int (vz i1)), some (.int (vz i2)), some (.int (vz i3)), some (.int (vz q31)), some (.int (vz 0)), none]) e116_36 (fun _ => rfl) (by decide) rfl ?_
        refine w_kI e116_38 ?_
        refine w_stI (j := 6) (A1 := [some (.ref 238), some (.int (vz i1)), some (.int (vz i2)), some (.int (vz i3)), some (.int (vz q31)), some (.int (vz 0)), some (.int (vz 0))]) e116_39 (fun _ => rfl) (by decide) rfl ?_
        exact w_sub (A1 := [some (.ref 238), some (.int (vz i1)), some (.int (vz i2)), some (.int (vz i3)), some (.int (vz q31)), some (.int (vz 0)), some (.int (vz 0))]) (And.intro rfl (And.intro rfl (And.intro rfl (And.intro rfl (And.intro rfl (And.intro rfl (And.intro rfl trivial))))))) (((c116_L (sc := sc) (ai := ai) (al := al) (az := az) (v0 := v0) (i1 := i1) (i2 := i2) (i3 := i3) hK hI hi_1 hi_2 hi_3 hR _)) v20 sc22 ai23 al24 az25 q31 0 0 hM26 hK27 hI28 hF39 (by omega) (by omega) (by omega) hR40 (by omega) (Nat.lt_succ_self _))
      ·
        refine w_kI e116_33 ?_
        exact w_ri e116_34 rfl ⟨⟨sc22, ai23, al24, az25, hM26, hK27, hI28, hF39, hR40⟩, -1, (by omega), rfl⟩
set_option maxRecDepth 100000 in
set_option maxHeartbeats 4000000 in
theorem c117 {sc : Nat → Int} {ai : Nat → Nat → Int} {al : Nat → Nat → Int64} {az : Nat → Nat → Int32} {v0 vh : vm_H} (hM : tm sc ai al az v0 vh) (hK : tmok ai) (hI : gi sc ai al az) {i1 : Int} (hi_1 : -2147483648 ≤ i1 ∧ i1 < 2147483648) {l_2 : Int64} (hR : ri2 sc ai al az) : vm_Rp 0 0 117 [.ref 238, .int (vz i1), .long l_2] vh (fun r v1 => (∃ (sc1 : Nat → Int) (ai1 : Nat → Nat → Int) (al1 : Nat → Nat → Int64) (az1 : Nat → Nat → Int32), tm sc1 ai1 al1 az1 v0 v1 ∧ tmok ai1 ∧ gi sc1 ai1 al1 az1 ∧ fr [0] [245] 1 0 sc ai al az sc1 ai1 al1 az1 ∧ (ri2 sc1 ai1 al1 az1)) ∧ ∃ q : Int, ((0 ≤ q ∧ q ≤ 1) ∧ (q = 1 ↔ (0 ≤ i1 ∧ i1 < sc 1))) ∧ r = some (.int (vz q))) := by
  have hF0 : fr [0] [245] 1 0 sc ai al az sc ai al az := fr_0 _ _ _ _ _ _ _ _
  have hn8 := hI.1.1
  refine w_in (m := 0) ?_
  show vm_Wp _ _ _ 0 [some (.ref 238), some (.int (vz i1)), some (.long l_2), none] [] _ _
  refine w_ldA e117_0 (fun _ => rfl) rfl ?_
  refine w_kI e117_1 ?_
  have e1 := tm_o hM
  refine w_put e117_2 e1 (Nat.le_of_ble_eq_true rfl) rfl (fun v4 b2 h3 => ?_)
  obtain ⟨sc5, hd7, hM6⟩ : ∃ z, z = u1 sc 0 (0) ∧ tm z ai al az v0 v4 := ⟨_, rfl, tm_ps 0 hM (by omega) b2 h3⟩
  have hs8 : sc5 0 = 0 := by rw [hd7]; exact u1_s
  have hs9 : sc5 1 = sc 1 := by rw [hd7]; exact u1_o (by decide)
  have hs10 : sc5 4 = sc 4 := by rw [hd7]; exact u1_o (by decide)
  have hs11 : sc5 11 = sc 11 := by rw [hd7]; exact u1_o (by decide)
  have hs12 : sc5 18 = sc 18 := by rw [hd7]; exact u1_o (by decide)
  have hs13 : sc5 38 = sc 38 := by rw [hd7]; exact u1_o (by decide)
  have hF14 : fr [0] [245] 1 0 sc ai al az sc5 ai al az := fr_s hF0 hd7 rfl
  have hI15 : gi sc5 ai al az := gi_s hI hd7 (by decide) (by decide) (by decide)
  have hR16 := ri2_fr hR hK (fr_s (X := [0]) (Y := []) (lo := 1) (hi := 0) (fr_0 _ _ _ _ sc ai al az) hd7 rfl) rfl rfl rfl rfl rfl rfl rfl rfl rfl (by omega)
  have hS17 := sjk_fr hR.1 hK (fr_s (X := [0]) (Y := []) (lo := 1) (hi := 0) (fr_0 _ _ _ _ sc ai al az) hd7 rfl) rfl rfl
  refine w_ldI e117_5 (fun _ => rfl) rfl ?_
  refine w_if e117_6 hi_1 (fun (h18 : i1 < 0) => ?_) (fun (h18 : 0 ≤ i1) => ?_)
  ·
    refine w_kI e117_17 ?_
    exact w_rz e117_18 rfl (by omega) ⟨⟨sc5, ai, al, az, hM6, hK, hI15, hF14, hR16⟩, 0, (by omega), rfl⟩
  ·
    refine w_ldI e117_9 (fun _ => rfl) rfl ?_
    refine w_ldA e117_10 (fun _ => rfl) rfl ?_
    have e19 := tm_o hM6
    refine w_get e117_11 e19 rfl ?_
    refine w_ic e117_14 hi_1 (tm_s hM6 1) (fun (h20 : i1 < sc5 1) => ?_) (fun (h20 : sc5 1 ≤ i1) => ?_)
    ·
      refine w_ldA e117_19 (fun _ => rfl) rfl ?_
      refine w_get e117_20 e19 rfl ?_
      refine w_ldI e117_23 (fun _ => rfl) rfl ?_
      refine w_ldL e117_24 (fun _ => rfl) rfl ?_
      have e21 := tm_l hM6 (a := 245) (n := 8) rfl
      refine w_lst e117_25 e21 (by omega) (by omega) (by decide) (fun v24 b22 h23 => ?_)
      obtain ⟨al25, hd27, hM26⟩ : ∃ z, z = u2 al 245 (i1).toNat l_2 ∧ tm sc5 ai z az v0 v24 := ⟨_, rfl, tm_pl hM6 rfl b22 h23⟩
      have hF28 : fr [0] [245] 1 0 sc ai al az sc5 ai al25 az := fr_l hF14 hd27 rfl (by decide)
      have hI29 : gi sc5 ai al25 az := gi_l hI15 hd27 (by decide)
      have hR30 := ri2_fr hR16 hK (fr_l (X := []) (Y := [245]) (lo := 1) (hi := 0) (fr_0 _ _ _ _ sc5 ai al az) hd27 rfl (by decide)) rfl rfl rfl rfl rfl rfl rfl rfl rfl (by omega)
      have hS31 := sjk_fr hS17 hK (fr_l (X := []) (Y := [245]) (lo := 1) (hi := 0) (fr_0 _ _ _ _ sc5 ai al az) hd27 rfl (by decide)) rfl rfl
      refine w_kI e117_26 ?_
      exact w_rz e117_27 rfl (by omega) ⟨⟨sc5, ai, al25, az, hM26, hK, hI29, hF28, hR30⟩, 1, (by omega), rfl⟩
    ·
      refine w_kI e117_17 ?_
      exact w_rz e117_18 rfl (by omega) ⟨⟨sc5, ai, al, az, hM6, hK, hI15, hF14, hR16⟩, 0, (by omega), rfl⟩
set_option maxRecDepth 100000 in
set_option maxHeartbeats 4000000 in
theorem c120 {sc : Nat → Int} {ai : Nat → Nat → Int} {al : Nat → Nat → Int64} {az : Nat → Nat → Int32} {v0 vh : vm_H} (hM : tm sc ai al az v0 vh) (hK : tmok ai) (hI : gi sc ai al az) {i1 : Int} (hi_1 : -2147483648 ≤ i1 ∧ i1 < 2147483648) {i2 : Int} (hi_2 : -2147483648 ≤ i2 ∧ i2 < 2147483648) (hR : ri2 sc ai al az) : vm_Rp 5 112 120 [.ref 238, .int (vz i1), .int (vz i2)] vh (fun r v1 => (∃ (sc1 : Nat → Int) (ai1 : Nat → Nat → Int) (al1 : Nat → Nat → Int64) (az1 : Nat → Nat → Int32), tm sc1 ai1 al1 az1 v0 v1 ∧ tmok ai1 ∧ gi sc1 ai1 al1 az1 ∧ fr [0] [] 70 70 sc ai al az sc1 ai1 al1 az1 ∧ (ri2 sc1 ai1 al1 az1)) ∧ ∃ q : Int64, r = some (.long q)) := by
  have hF0 : fr [0] [] 70 70 sc ai al az sc ai al az := fr_0 _ _ _ _ _ _ _ _
  have hn8 := hI.1.1
  have hm8 := hR.2.1.1
  refine w_in (m := 1) ?_
  show vm_Wp _ _ _ 0 [some (.ref 238), some (.int (vz i1)), some (.int (vz i2)), none] [] _ _
  refine w_ldA e120_0 (fun _ => rfl) rfl ?_
  refine w_kI e120_1 ?_
  have e1 := tm_o hM
  refine w_put e120_2 e1 (Nat.le_of_ble_eq_true rfl) rfl (fun v4 b2 h3 => ?_)
  obtain ⟨sc5, hd7, hM6⟩ : ∃ z, z = u1 sc 0 (0) ∧ tm z ai al az v0 v4 := ⟨_, rfl, tm_ps 0 hM (by omega) b2 h3⟩
  have hs8 : sc5 0 = 0 := by rw [hd7]; exact u1_s
  have hs9 : sc5 1 = sc 1 := by rw [hd7]; exact u1_o (by decide)
  have hs10 : sc5 4 = sc 4 := by rw [hd7]; exact u1_o (by decide)
  have hs11 : sc5 11 = sc 11 := by rw [hd7]; exact u1_o (by decide)
  have hs12 : sc5 18 = sc 18 := by rw [hd7]; exact u1_o (by decide)
  have hs13 : sc5 38 = sc 38 := by rw [hd7]; exact u1_o (by decide)
  have hF14 : fr [0] [] 70 70 sc ai al az sc5 ai al az := fr_s hF0 hd7 rfl
  have hI15 : gi sc5 ai al az := gi_s hI hd7 (by decide) (by decide) (by decide)
  have hR16 := ri2_fr hR hK (fr_s (X := [0]) (Y := []) (lo := 1) (hi := 0) (fr_0 _ _ _ _ sc ai al az) hd7 rfl) rfl rfl rfl rfl rfl rfl rfl rfl rfl (by omega)
  have hS17 := sjk_fr hR.1 hK (fr_s (X := [0]) (Y := []) (lo := 1) (hi := 0) (fr_0 _ _ _ _ sc ai al az) hd7 rfl) rfl rfl
  refine w_ldA e120_5 (fun _ => rfl) rfl ?_
  refine w_ldI e120_6 (fun _ => rfl) rfl ?_
  refine w_ldI e120_7 (fun _ => rfl) rfl ?_
  have e18 := tm_o hM6
  refine w_cv e120_8 (by decide) rfl e18 rfl (Nat.le_of_ble_eq_true rfl) (Nat.le_of_ble_eq_true rfl) (Nat.le_of_ble_eq_true rfl) (by decide) (by decide) (c114 hM6 hK hI15 hi_1 hi_2 hR16) (fun o19 v20 hq21 => ?_)
  obtain ⟨⟨sc22, ai23, al24, az25, hM26, hK27, hI28, hG29, hE30⟩, q31, h32, rfl⟩ := hq21
  have hs33 : sc22 0 = sc5 0 := hG29.1 0 rfl
  have hs34 : sc22 1 = sc5 1 := hG29.1 1 rfl
  have hs35 : sc22 4 = sc5 4 := hG29.1 4 rfl
  have hs36 : sc22 11 = sc5 11 := hG29.1 11 rfl
  have hs37 : sc22 18 = sc5 18 := hG29.1 18 rfl
  have hs38 : sc22 38 = sc5 38 := hG29.1 38 rfl
  have hF39 : fr [0] [] 70 70 sc ai al az sc22 ai23 al24 az25 := fr_t hF14 hG29 rfl rfl (by omega)
  have hR40 := ri2_fr hR16 hK hG29 rfl rfl rfl rfl rfl rfl rfl rfl rfl (by omega)
  have hS41 := sjk_fr hS17 hK hG29 rfl rfl
  refine w_stI (j := 3) (A1 := [some (.ref 238), some (.int (vz i1)), some (.int (vz i2)), some (.int (vz q31))]) e120_11 (fun _ => rfl) (by decide) rfl ?_
  refine w_ldI e120_12 (fun _ => rfl) rfl ?_
  refine w_if e120_13 (by omega) (fun (h42 : 0 ≤ q31) => ?_) (fun (h42 : q31 < 0) => ?_)
  ·
    refine w_ldA e120_20 (fun _ => rfl) rfl ?_
    refine w_ldI e120_21 (fun _ => rfl) rfl ?_
    have e43 := tm_o hM26
    refine w_cv e120_22 (by decide) rfl e43 rfl (Nat.le_of_ble_eq_true rfl) (Nat.le_of_ble_eq_true rfl) (Nat.le_of_ble_eq_true rfl) (by decide) (by decide) (c119 hM26 hK27 (by omega)) (fun o44 v45 hq46 => ?_)
    obtain ⟨rfl, l47, rfl⟩ := hq46
    exact w_rl e120_25 rfl ⟨⟨sc22, ai23, al24, az25, hM26, hK27, hI28, hF39, hR40⟩, _, rfl⟩
  ·
    refine w_oL e120_16 (fun _ => rfl) (fun l48 => ?_)
    refine w_x e120_17 (fun _ => rfl) ?_
    exact w_rl e120_25 rfl ⟨⟨sc22, ai23, al24, az25, hM26, hK27, hI28, hF39, hR40⟩, _, rfl⟩
