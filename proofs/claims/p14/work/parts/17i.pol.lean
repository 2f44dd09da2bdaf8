set_option maxRecDepth 100000 in
set_option maxHeartbeats 4000000 in
theorem c107x {sc : Nat → Int} {ai : Nat → Nat → Int} {al : Nat → Nat → Int64} {az : Nat → Nat → Int32} {v0 vh : vm_H} (hM : tm sc ai al az v0 vh) (hK : tmok ai) (hI : gi sc ai al az) (hR : ri2 sc ai al az) : vm_Rp 0 0 107 [.ref 238] vh (fun r v1 => (∃ (sc1 : Nat → Int) (ai1 : Nat → Nat → Int) (al1 : Nat → Nat → Int64) (az1 : Nat → Nat → Int32), tm sc1 ai1 al1 az1 v0 v1 ∧ tmok ai1 ∧ gi sc1 ai1 al1 az1 ∧ fr [0, 4] [241] (sc 4).toNat (sc 4).toNat sc ai al az sc1 ai1 al1 az1 ∧ (ri2 sc1 ai1 al1 az1 ∧ ((sc 4 = 16 ∧ sc1 4 = sc 4 ∧ ai1 = ai ∧ al1 = al) ∨ (sc 4 ≠ 16 ∧ sc1 4 = sc 4 + 1 ∧ ai1 242 (sc 4).toNat = 0)))) ∧ ∃ q : Int, ((sc 4 = 16 ∧ q = -1) ∨ (sc 4 ≠ 16 ∧ q = sc 4)) ∧ r = some (.int (vz q))) := by
  have hF0 : fr [0, 4] [241] (sc 4).toNat (sc 4).toNat sc ai al az sc ai al az := fr_0 _ _ _ _ _ _ _ _
  have hn8 := hI.1.1
  refine w_in (m := 0) ?_
  show vm_Wp _ _ _ 0 [some (.ref 238)] [] _ _
  refine w_ldA e107_0 (fun _ => rfl) rfl ?_
  refine w_kI e107_1 ?_
  have e1 := tm_o hM
  refine w_put e107_2 e1 (Nat.le_of_ble_eq_true rfl) rfl (fun v4 b2 h3 => ?_)
  obtain ⟨sc5, hd7, hM6⟩ : ∃ z, z = u1 sc 0 (0) ∧ tm z ai al az v0 v4 := ⟨_, rfl, tm_ps 0 hM (by omega) b2 h3⟩
  have hs8 : sc5 0 = 0 := by rw [hd7]; exact u1_s
  have hs9 : sc5 1 = sc 1 := by rw [hd7]; exact u1_o (by decide)
  have hs10 : sc5 4 = sc 4 := by rw [hd7]; exact u1_o (by decide)
  have hs11 : sc5 11 = sc 11 := by rw [hd7]; exact u1_o (by decide)
  have hs12 : sc5 18 = sc 18 := by rw [hd7]; exact u1_o (by decide)
  have hs13 : sc5 38 = sc 38 := by rw [hd7]; exact u1_o (by decide)
  have hF14 : fr [0, 4] [241] (sc 4).toNat (sc 4).toNat sc ai al az sc5 ai al az := fr_s hF0 hd7 rfl
  have hI15 : gi sc5 ai al az := gi_s hI hd7 (by decide) (by decide) (by decide)
  have hR16 := ri2_fr hR hK (fr_s (X := [0]) (Y := []) (lo := 1) (hi := 0) (fr_0 _ _ _ _ sc ai al az) hd7 rfl) rfl rfl rfl rfl rfl rfl rfl rfl rfl (by omega)
  have hS17 := sjk_fr hR.1 hK (fr_s (X := [0]) (Y := []) (lo := 1) (hi := 0) (fr_0 _ _ _ _ sc ai al az) hd7 rfl) rfl rfl
  refine w_ldA e107_5 (fun _ => rfl) rfl ?_
  have e18 := tm_o hM6
  refine w_get e107_6 e18 rfl ?_
  refine w_kB e107_9 rfl ?_
  refine w_ic e107_11 (tm_s hM6 4) (by omega) (fun (h19 : sc5 4 ≠ 16) => ?_) (fun (h19 : sc5 4 = 16) => ?_)
  ·
    refine w_ldA e107_16 (fun _ => rfl) rfl ?_
    refine w_get e107_17 e18 rfl ?_
    refine w_ldA e107_20 (fun _ => rfl) rfl ?_
    refine w_get e107_21 e18 rfl ?_
    refine w_kI e107_24 ?_
    have e20 := tm_i hM6 (a := 242) (n := 72) rfl
    refine w_ast e107_25 e20 (by omega) (by omega) (by decide) (by decide) (fun v23 b21 h22 => ?_)
    obtain ⟨ai24, hd26, hM25⟩ : ∃ z, z = u2 ai 242 (sc5 4).toNat 0 ∧ tm sc5 z al az v0 v23 := ⟨_, rfl, tm_pi hM6 rfl (by omega) b21 h22⟩
    have hK27 : tmok ai24 := by rw [hd26]; exact tmok_c hK (by omega)
    have hF28 : fr [0, 4] [241] (sc 4).toNat (sc 4).toNat sc ai al az sc5 ai24 al az := fr_c hF14 hd26 (by omega)
    have hR29 := ri2_fr hR16 hK (fr_c (X := []) (Y := []) (lo := (sc5 4).toNat) (hi := (sc5 4).toNat) (fr_0 _ _ _ _ sc5 ai al az) hd26 (by omega)) rfl rfl rfl rfl rfl rfl rfl rfl rfl (by omega)
    have hS30 := sjk_fr hS17 hK (fr_c (X := []) (Y := []) (lo := (sc5 4).toNat) (hi := (sc5 4).toNat) (fr_0 _ _ _ _ sc5 ai al az) hd26 (by omega)) rfl rfl
    have hI31 : gi sc5 ai24 al az := gi_new hI15 (s := sc5 4) (by omega) (fr_c (X := []) (Y := []) (lo := (sc5 4).toNat) (hi := (sc5 4).toNat) (fr_0 _ _ _ _ _ _ _ _) hd26 (by omega)) rfl rfl rfl rfl hK27 (fun t ht => by rw [hd26, u2_s] at ht; omega)
    refine w_ldA e107_26 (fun _ => rfl) rfl ?_
    have e32 := tm_o hM25
    refine w_get e107_27 e32 rfl ?_
    refine w_ldA e107_30 (fun _ => rfl) rfl ?_
    refine w_get e107_31 e32 rfl ?_
    refine w_kI e107_34 ?_
    have e33 := tm_z hM25 (a := 241) (n := 16) rfl
    refine w_zst e107_35 e33 (by omega) (by omega) (by decide) (fun v36 b34 h35 => ?_)
    obtain ⟨az37, hd39, hM38⟩ : ∃ z, z = u2 az 241 (sc5 4).toNat (vz 0 &&& 1) ∧ tm sc5 ai24 al z v0 v36 := ⟨_, rfl, tm_pz hM25 rfl b34 h35⟩
    have hF40 : fr [0, 4] [241] (sc 4).toNat (sc 4).toNat sc ai al az sc5 ai24 al az37 := fr_z hF28 hd39 rfl
    have hI41 : gi sc5 ai24 al az37 := gi_z hI31 hd39 (by decide)
    have hR42 := ri2_fr hR29 hK27 (fr_z (X := []) (Y := [241]) (lo := 1) (hi := 0) (fr_0 _ _ _ _ sc5 ai24 al az) hd39 rfl) rfl rfl rfl rfl rfl rfl rfl rfl rfl (by omega)
    have hS43 := sjk_fr hS30 hK27 (fr_z (X := []) (Y := [241]) (lo := 1) (hi := 0) (fr_0 _ _ _ _ sc5 ai24 al az) hd39 rfl) rfl rfl
    refine w_ldA e107_36 (fun _ => rfl) rfl ?_
    refine w_x e107_37 (fun _ => rfl) ?_
    have e44 := tm_o hM38
    refine w_get e107_38 e44 rfl ?_
    refine w_kI e107_41 ?_
    refine w_iadd e107_42 ?_
    refine w_put e107_43 e44 (Nat.le_of_ble_eq_true rfl) rfl (fun v47 b45 h46 => ?_)
    obtain ⟨sc48, hd50, hM49⟩ : ∃ z, z = u1 sc5 4 ((sc5 4) + 1) ∧ tm z ai24 al az37 v0 v47 := ⟨_, rfl, tm_ps 4 hM38 (by omega) b45 h46⟩
    have hs51 : sc48 0 = sc5 0 := by rw [hd50]; exact u1_o (by decide)
    have hs52 : sc48 1 = sc5 1 := by rw [hd50]; exact u1_o (by decide)
    have hs53 : sc48 4 = (sc5 4) + 1 := by rw [hd50]; exact u1_s
    have hs54 : sc48 11 = sc5 11 := by rw [hd50]; exact u1_o (by decide)
    have hs55 : sc48 18 = sc5 18 := by rw [hd50]; exact u1_o (by decide)
    have hs56 : sc48 38 = sc5 38 := by rw [hd50]; exact u1_o (by decide)
    have hF57 : fr [0, 4] [241] (sc 4).toNat (sc 4).toNat sc ai al az sc48 ai24 al az37 := fr_s hF40 hd50 rfl
    have hI58 : gi sc48 ai24 al az37 := gi_p hI41 hd50 (by omega)
    have hR59 := ri2_fr hR42 hK27 (fr_s (X := [4]) (Y := []) (lo := 1) (hi := 0) (fr_0 _ _ _ _ sc5 ai24 al az37) hd50 rfl) rfl rfl rfl rfl rfl rfl rfl rfl rfl (by omega)
    have hS60 := sjk_fr hS43 hK27 (fr_s (X := [4]) (Y := []) (lo := 1) (hi := 0) (fr_0 _ _ _ _ sc5 ai24 al az37) hd50 rfl) rfl rfl
    refine w_ldA e107_46 (fun _ => rfl) rfl ?_
    have e61 := tm_o hM49
    refine w_get e107_47 e61 rfl ?_
    refine w_kI e107_50 ?_
    refine w_isub e107_51 ?_
    exact w_ri e107_52 rfl ⟨⟨sc48, ai24, al, az37, hM49, hK27, hI58, hF57, ⟨hR59, Or.inr ⟨by omega, by omega, by rw [hd26, hs10]; exact u2_s⟩⟩⟩, (sc48 4) - 1, (by omega), rfl⟩
  ·
    refine w_kI e107_14 ?_
    exact w_ri e107_15 rfl ⟨⟨sc5, ai, al, az, hM6, hK, hI15, hF14, ⟨hR16, Or.inl ⟨by omega, by omega, rfl, rfl⟩⟩⟩, -1, (by omega), rfl⟩
