set_option maxRecDepth 100000 in
set_option maxHeartbeats 4000000 in
theorem r88_L {sc : Nat → Int} {ai : Nat → Nat → Int} {al : Nat → Nat → Int64} {az : Nat → Nat → Int32} {v0 : vm_H} (hK : tmok ai) {l_1 : Int64} {l_2 : Int64} {V : Nat → Nat} {nv Nk : Nat} {G : Po} (hG : tbG V nv sc ai al az G) (hV : pmV V nv) (hl38 : sc 38 < 8000) (hk2 : l_2 = Int64.ofNat (tr V nv Nk)) (hNk : Nk < 256 ^ nv) : ∀ N : Nat, (∀ (vh : vm_H) (x7 : Int), (tm sc ai al az v0 vh) → (0 ≤ x7 ∧ x7 < 16384) → (scI al az l_2 x7) → (((((ffz (az 259) 16384 : Nat) : Int) - x7) % 16384 : Int).toNat < N) → vm_Wp 0 0 88 15 [some (.ref 238), some (.long l_1), none, some (.long l_2), none, none, none, some (.int (vz x7))] [] vh (vq_P 88 (fun r v1 => (∃ (sc1 : Nat → Int) (ai1 : Nat → Nat → Int) (al1 : Nat → Nat → Int64) (az1 : Nat → Nat → Int32), gaO V nv G Nk l_1 sc sc1 ai ai1 al al1 az az1 ∧ tmok ai1 ∧ tm sc1 ai1 al1 az1 v0 v1) ∧ r = none))) := by
  have hB1 := hG.1.1.1
  have hff := tb_free hG.1.1
  have hf1 := hff.1
  intro N
  induction N with
  | zero => exact (by intros; omega)
  | succ N ih =>
    ·
      intro vh x7 hM hx7 hi0 hN
      refine w_ldA e88_15 (fun _ => rfl) rfl ?_
      have e1 := tm_o hM
      refine w_get e88_16 e1 rfl ?_
      refine w_ldI e88_19 (fun _ => rfl) rfl ?_
      have e2 := tm_z hM (a := 259) (n := 16384) rfl
      refine w_zldO e88_21 e2 (by omega) (by omega) (by decide) (fun q3 h4 h5 => ?_)
      refine w_if e88_22 h4 (fun (h6 : q3 = 0) => ?_) (fun (h6 : q3 ≠ 0) => ?_)
      ·
        refine w_ldA e88_50 (fun _ => rfl) rfl ?_
        refine w_get e88_51 e1 rfl ?_
        refine w_ldI e88_54 (fun _ => rfl) rfl ?_
        refine w_zldO e88_56 e2 (by omega) (by omega) (by decide) (fun q7 h8 h9 => ?_)
        refine w_if e88_57 h8 (fun (h10 : q7 ≠ 0) => ?_) (fun (h10 : q7 = 0) => ?_)
        ·
          have hqq : q3 = q7 := (vz_inj h4 h8).mp (h5.symm.trans h9)
          refine w_ldA e88_105 (fun _ => rfl) rfl ?_
          refine w_get e88_106 e1 rfl ?_
          refine w_ldI e88_109 (fun _ => rfl) rfl ?_
          refine w_x e88_111 (fun _ => rfl) ?_
          have e11 := tm_l hM (a := 258) (n := 16384) rfl
          refine w_lld e88_112 e11 (by omega) (by omega) (by decide) ?_
          refine w_ldL e88_113 (fun _ => rfl) rfl ?_
          refine w_x e88_114 (fun _ => rfl) ?_
          refine w_lst e88_115 e11 (by omega) (by omega) (by decide) (fun v14 b12 h13 => ?_)
          obtain ⟨al15, hd17, hM16⟩ : ∃ z, z = u2 al 258 (x7).toNat ((((al 258 (x7).toNat)) + l_1)) ∧ tm sc ai z az v0 v14 := ⟨_, rfl, tm_pl hM rfl b12 h13⟩
          exfalso; omega
        ·
          have hqq : q3 = q7 := (vz_inj h4 h8).mp (h5.symm.trans h9)
          refine w_ldA e88_60 (fun _ => rfl) rfl ?_
          refine w_get e88_61 e1 rfl ?_
          refine w_ldI e88_64 (fun _ => rfl) rfl ?_
          refine w_kI e88_66 ?_
          refine w_zst e88_67 e2 (by omega) (by omega) (by decide) (fun v20 b18 h19 => ?_)
          obtain ⟨az21, hd23, hM22⟩ : ∃ z, z = u2 az 259 (x7).toNat (vz 1 &&& 1) ∧ tm sc ai al z v0 v20 := ⟨_, rfl, tm_pz hM rfl b18 h19⟩
          refine w_ldA e88_68 (fun _ => rfl) rfl ?_
          have e24 := tm_o hM22
          refine w_get e88_69 e24 rfl ?_
          refine w_ldI e88_72 (fun _ => rfl) rfl ?_
          refine w_ldL e88_74 (fun _ => rfl) rfl ?_
          have e25 := tm_l hM22 (a := 257) (n := 16384) rfl
          refine w_lst e88_75 e25 (by omega) (by omega) (by decide) (fun v28 b26 h27 => ?_)
          obtain ⟨al29, hd31, hM30⟩ : ∃ z, z = u2 al 257 (x7).toNat l_2 ∧ tm sc ai z az21 v0 v28 := ⟨_, rfl, tm_pl hM22 rfl b26 h27⟩
          refine w_ldA e88_76 (fun _ => rfl) rfl ?_
          have e32 := tm_o hM30
          refine w_get e88_77 e32 rfl ?_
          refine w_ldI e88_80 (fun _ => rfl) rfl ?_
          refine w_x e88_82 (fun _ => rfl) ?_
          have e33 := tm_l hM30 (a := 258) (n := 16384) rfl
          refine w_lst e88_83 e33 (by omega) (by omega) (by decide) (fun v36 b34 h35 => ?_)
          obtain ⟨al37, hd39, hM38⟩ : ∃ z, z = u2 al29 258 (x7).toNat ((Int64.ofNat 0)) ∧ tm sc ai z az21 v0 v36 := ⟨_, rfl, tm_pl hM30 rfl b34 h35⟩
          refine w_ldA e88_84 (fun _ => rfl) rfl ?_
          have e40 := tm_o hM38
          refine w_get e88_85 e40 rfl ?_
          refine w_ldA e88_88 (fun _ => rfl) rfl ?_
          refine w_get e88_89 e40 rfl ?_
          refine w_ldI e88_92 (fun _ => rfl) rfl ?_
          have e41 := tm_i hM38 (a := 260) (n := 8000) rfl
          refine w_ast e88_94 e41 (by omega) (by omega) (by decide) (by decide) (fun v44 b42 h43 => ?_)
          obtain ⟨ai45, hd47, hM46⟩ : ∃ z, z = u2 ai 260 (sc 38).toNat x7 ∧ tm sc z al37 az21 v0 v44 := ⟨_, rfl, tm_pi hM38 rfl (by omega) b42 h43⟩
          have hK48 : tmok ai45 := by rw [hd47]; exact tmok_u hK (by decide) (by decide)
          refine w_ldA e88_95 (fun _ => rfl) rfl ?_
          refine w_x e88_96 (fun _ => rfl) ?_
          have e49 := tm_o hM46
          refine w_get e88_97 e49 rfl ?_
          refine w_kI e88_100 ?_
          refine w_iadd e88_101 ?_
          refine w_put e88_102 e49 (Nat.le_of_ble_eq_true rfl) rfl (fun v52 b50 h51 => ?_)
          obtain ⟨sc53, hd55, hM54⟩ : ∃ z, z = u1 sc 38 ((sc 38) + 1) ∧ tm z ai45 al37 az21 v0 v52 := ⟨_, rfl, tm_ps 38 hM46 (by omega) b50 h51⟩
          refine w_ldA e88_105 (fun _ => rfl) rfl ?_
          have e56 := tm_o hM54
          refine w_get e88_106 e56 rfl ?_
          refine w_ldI e88_109 (fun _ => rfl) rfl ?_
          refine w_x e88_111 (fun _ => rfl) ?_
          have e57 := tm_l hM54 (a := 258) (n := 16384) rfl
          refine w_lld e88_112 e57 (by omega) (by omega) (by decide) ?_
          refine w_ldL e88_113 (fun _ => rfl) rfl ?_
          refine w_x e88_114 (fun _ => rfl) ?_
          refine w_lst e88_115 e57 (by omega) (by omega) (by decide) (fun v60 b58 h59 => ?_)
          obtain ⟨al61, hd63, hM62⟩ : ∃ z, z = u2 al37 258 (x7).toNat ((((al37 258 (x7).toNat)) + l_1)) ∧ tm sc53 ai45 z az21 v0 v60 := ⟨_, rfl, tm_pl hM54 rfl b58 h59⟩
          exact w_rv e88_116 rfl ⟨⟨sc53, ai45, al61, az21, ga_new hi0 hG hx7 hl38 hNk hk2 (by rw [h9, show q7 = 0 by omega]; rfl) (by decide) hd23 hd31 hd39 hd47 hd55 hd63, hK48, hM62⟩, rfl⟩
      ·
        have hne64 := tb_ne hff.2 h5 h4 h6 (by omega)
        refine w_ldA e88_25 (fun _ => rfl) rfl ?_
        refine w_get e88_26 e1 rfl ?_
        refine w_ldI e88_29 (fun _ => rfl) rfl ?_
        have e65 := tm_l hM (a := 257) (n := 16384) rfl
        refine w_lld e88_31 e65 (by omega) (by omega) (by decide) ?_
        refine w_ldL e88_32 (fun _ => rfl) rfl ?_
        refine w_lcmp e88_33 (fun q66 (h67 : -1 ≤ q66 ∧ q66 ≤ 1) h68 h69 => ?_)
        refine w_if e88_34 (by omega) (fun (h70 : q66 = 0) => ?_) (fun (h70 : q66 ≠ 0) => ?_)
        ·
          refine w_ldA e88_50 (fun _ => rfl) rfl ?_
          refine w_get e88_51 e1 rfl ?_
          refine w_ldI e88_54 (fun _ => rfl) rfl ?_
          refine w_zldO e88_56 e2 (by omega) (by omega) (by decide) (fun q71 h72 h73 => ?_)
          refine w_if e88_57 h72 (fun (h74 : q71 ≠ 0) => ?_) (fun (h74 : q71 = 0) => ?_)
          ·
            have hqq : q3 = q71 := (vz_inj h4 h72).mp (h5.symm.trans h73)
            refine w_ldA e88_105 (fun _ => rfl) rfl ?_
            refine w_get e88_106 e1 rfl ?_
            refine w_ldI e88_109 (fun _ => rfl) rfl ?_
            refine w_x e88_111 (fun _ => rfl) ?_
            have e75 := tm_l hM (a := 258) (n := 16384) rfl
            refine w_lld e88_112 e75 (by omega) (by omega) (by decide) ?_
            refine w_ldL e88_113 (fun _ => rfl) rfl ?_
            refine w_x e88_114 (fun _ => rfl) ?_
            refine w_lst e88_115 e75 (by omega) (by omega) (by decide) (fun v78 b76 h77 => ?_)
            obtain ⟨al79, hd81, hM80⟩ : ∃ z, z = u2 al 258 (x7).toNat ((((al 258 (x7).toNat)) + l_1)) ∧ tm sc ai z az v0 v78 := ⟨_, rfl, tm_pl hM rfl b76 h77⟩
            exact w_rv e88_116 rfl ⟨⟨sc, ai, al79, az, ga_old hG hV hx7 hNk hk2 h73 h72 (by omega) (h68.mp h70) hd81, hK, hM80⟩, rfl⟩
          ·
            have hqq : q3 = q71 := (vz_inj h4 h72).mp (h5.symm.trans h73)
            refine w_ldA e88_60 (fun _ => rfl) rfl ?_
            refine w_get e88_61 e1 rfl ?_
            refine w_ldI e88_64 (fun _ => rfl) rfl ?_
            refine w_kI e88_66 ?_
            refine w_zst e88_67 e2 (by omega) (by omega) (by decide) (fun v84 b82 h83 => ?_)
            obtain ⟨az85, hd87, hM86⟩ : ∃ z, z = u2 az 259 (x7).toNat (vz 1 &&& 1) ∧ tm sc ai al z v0 v84 := ⟨_, rfl, tm_pz hM rfl b82 h83⟩
            refine w_ldA e88_68 (fun _ => rfl) rfl ?_
            have e88 := tm_o hM86
            refine w_get e88_69 e88 rfl ?_
            refine w_ldI e88_72 (fun _ => rfl) rfl ?_
            refine w_ldL e88_74 (fun _ => rfl) rfl ?_
            have e89 := tm_l hM86 (a := 257) (n := 16384) rfl
            refine w_lst e88_75 e89 (by omega) (by omega) (by decide) (fun v92 b90 h91 => ?_)
            obtain ⟨al93, hd95, hM94⟩ : ∃ z, z = u2 al 257 (x7).toNat l_2 ∧ tm sc ai z az85 v0 v92 := ⟨_, rfl, tm_pl hM86 rfl b90 h91⟩
            refine w_ldA e88_76 (fun _ => rfl) rfl ?_
            have e96 := tm_o hM94
            refine w_get e88_77 e96 rfl ?_
            refine w_ldI e88_80 (fun _ => rfl) rfl ?_
            refine w_x e88_82 (fun _ => rfl) ?_
            have e97 := tm_l hM94 (a := 258) (n := 16384) rfl
            refine w_lst e88_83 e97 (by omega) (by omega) (by decide) (fun v100 b98 h99 => ?_)
            obtain ⟨al101, hd103, hM102⟩ : ∃ z, z = u2 al93 258 (x7).toNat ((Int64.ofNat 0)) ∧ tm sc ai z az85 v0 v100 := ⟨_, rfl, tm_pl hM94 rfl b98 h99⟩
            refine w_ldA e88_84 (fun _ => rfl) rfl ?_
            have e104 := tm_o hM102
            refine w_get e88_85 e104 rfl ?_
            refine w_ldA e88_88 (fun _ => rfl) rfl ?_
            refine w_get e88_89 e104 rfl ?_
            refine w_ldI e88_92 (fun _ => rfl) rfl ?_
            have e105 := tm_i hM102 (a := 260) (n := 8000) rfl
            refine w_ast e88_94 e105 (by omega) (by omega) (by decide) (by decide) (fun v108 b106 h107 => ?_)
            obtain ⟨ai109, hd111, hM110⟩ : ∃ z, z = u2 ai 260 (sc 38).toNat x7 ∧ tm sc z al101 az85 v0 v108 := ⟨_, rfl, tm_pi hM102 rfl (by omega) b106 h107⟩
            have hK112 : tmok ai109 := by rw [hd111]; exact tmok_u hK (by decide) (by decide)
            refine w_ldA e88_95 (fun _ => rfl) rfl ?_
            refine w_x e88_96 (fun _ => rfl) ?_
            have e113 := tm_o hM110
            refine w_get e88_97 e113 rfl ?_
            refine w_kI e88_100 ?_
            refine w_iadd e88_101 ?_
            refine w_put e88_102 e113 (Nat.le_of_ble_eq_true rfl) rfl (fun v116 b114 h115 => ?_)
            obtain ⟨sc117, hd119, hM118⟩ : ∃ z, z = u1 sc 38 ((sc 38) + 1) ∧ tm z ai109 al101 az85 v0 v116 := ⟨_, rfl, tm_ps 38 hM110 (by omega) b114 h115⟩
            refine w_ldA e88_105 (fun _ => rfl) rfl ?_
            have e120 := tm_o hM118
            refine w_get e88_106 e120 rfl ?_
            refine w_ldI e88_109 (fun _ => rfl) rfl ?_
            refine w_x e88_111 (fun _ => rfl) ?_
            have e121 := tm_l hM118 (a := 258) (n := 16384) rfl
            refine w_lld e88_112 e121 (by omega) (by omega) (by decide) ?_
            refine w_ldL e88_113 (fun _ => rfl) rfl ?_
            refine w_x e88_114 (fun _ => rfl) ?_
            refine w_lst e88_115 e121 (by omega) (by omega) (by decide) (fun v124 b122 h123 => ?_)
            obtain ⟨al125, hd127, hM126⟩ : ∃ z, z = u2 al101 258 (x7).toNat ((((al101 258 (x7).toNat)) + l_1)) ∧ tm sc117 ai109 z az85 v0 v124 := ⟨_, rfl, tm_pl hM118 rfl b122 h123⟩
            exfalso; omega
        ·
          refine w_ldI e88_37 (fun _ => rfl) rfl ?_
          refine w_kI e88_39 ?_
          refine w_iadd e88_40 ?_
          refine w_kS e88_41 rfl ?_
          refine w_irem e88_44 (by omega) (by omega) ?_
          refine w_stI (j := 7) (A1 := [some (.ref 238), some (.long l_1), none, some (.long l_2), none, none, none, some (.int (vz ((x7 + 1) % 16384)))]) e88_45 (fun _ => rfl) (by decide) rfl ?_
          refine w_x e88_47 (fun _ => rfl) ?_
          exact w_sub (A1 := [some (.ref 238), some (.long l_1), none, some (.long l_2), none, none, none, some (.int (vz ((x7 + 1) % 16384)))]) (And.intro rfl (And.intro rfl (And.intro rfl (And.intro rfl trivial)))) ((ih) vh ((x7 + 1) % 16384) hM (by omega) (scI_s hi0 hx7 h5 h4 (by omega) (fun e9 => h70 (h68.mpr e9))) (by omega))
set_option maxRecDepth 100000 in
set_option maxHeartbeats 4000000 in
theorem r88 {sc : Nat → Int} {ai : Nat → Nat → Int} {al : Nat → Nat → Int64} {az : Nat → Nat → Int32} {v0 vh : vm_H} (hM : tm sc ai al az v0 vh) (hK : tmok ai) {l_1 : Int64} {l_2 : Int64} {V : Nat → Nat} {nv Nk : Nat} {G : Po} (hG : tbG V nv sc ai al az G) (hV : pmV V nv) (hl38 : sc 38 < 8000) (hk2 : l_2 = Int64.ofNat (tr V nv Nk)) (hNk : Nk < 256 ^ nv) : vm_Rp 0 0 88 [.ref 238, .long l_1, .long l_2] vh (fun r v1 => (∃ (sc1 : Nat → Int) (ai1 : Nat → Nat → Int) (al1 : Nat → Nat → Int64) (az1 : Nat → Nat → Int32), gaO V nv G Nk l_1 sc sc1 ai ai1 al al1 az az1 ∧ tmok ai1 ∧ tm sc1 ai1 al1 az1 v0 v1) ∧ r = none) := by
  have hB1 := hG.1.1.1
  have hff := tb_free hG.1.1
  have hf1 := hff.1
  refine w_in (m := 3) ?_
  show vm_Wp _ _ _ 0 [some (.ref 238), some (.long l_1), none, some (.long l_2), none, none, none, none] [] _ _
  refine w_ldL e88_0 (fun _ => rfl) rfl ?_
  refine w_x e88_1 (fun _ => rfl) ?_
  refine w_x e88_4 (fun _ => rfl) ?_
  refine w_stL (j := 5) (A1 := [some (.ref 238), some (.long l_1), none, some (.long l_2), none, some (.long ((l_2 * ((Int64.ofNat 11400714819323198485))))), none, none]) e88_5 (fun _ => rfl) (by decide) rfl ?_
  refine w_ldL e88_7 (fun _ => rfl) rfl ?_
  refine w_kB e88_9 rfl ?_
  refine w_x e88_11 (fun _ => rfl) ?_
  refine w_x e88_12 (fun _ => rfl) ?_
  show vm_Wp _ _ _ 13 _ [.int (((l_2 * Int64.ofNat 11400714819323198485).toUInt64 >>> ((vz 50).toInt64.toUInt64 &&& Int64.toUInt64 63)).toInt64.toInt32)] _ _
  rw [(hs_ok l_2).1]
  have hhs := (hs_ok l_2).2
  refine w_stI (j := 7) (A1 := [some (.ref 238), some (.long l_1), none, some (.long l_2), none, some (.long ((l_2 * ((Int64.ofNat 11400714819323198485))))), none, some (.int (vz (hsI l_2)))]) e88_13 (fun _ => rfl) (by decide) rfl ?_
  exact w_sub (A1 := [some (.ref 238), some (.long l_1), none, some (.long l_2), none, none, none, some (.int (vz (hsI l_2)))]) (And.intro rfl (And.intro rfl (And.intro rfl (And.intro rfl trivial)))) (((r88_L (sc := sc) (ai := ai) (al := al) (az := az) (v0 := v0) (l_1 := l_1) (l_2 := l_2) (V := V) (nv := nv) (Nk := Nk) (G := G) hK hG hV hl38 hk2 hNk _)) vh (hsI l_2) hM (by omega) scI_0 (Nat.lt_succ_self _))
set_option maxRecDepth 100000 in
set_option maxHeartbeats 4000000 in
theorem r90_L {sc : Nat → Int} {ai : Nat → Nat → Int} {al : Nat → Nat → Int64} {az : Nat → Nat → Int32} {v0 : vm_H} (hK : tmok ai) {i1 : Int} (hi_1 : 0 ≤ i1 ∧ i1 < 72) {nv : Nat} (hv : sc 1 = (nv : Int)) (hV : pmV (vR ai) nv) {G : Po} (hG : tbG (vR ai) nv sc ai al az G) : ∀ N : Nat, (∀ (vh : vm_H) (al_ : Nat → Nat → Int64) (az_ : Nat → Nat → Int32) (x2 : Int) (x3 : Int) (x4 : Int), (tm sc ai al_ az_ v0 vh) → (0 ≤ x2 ∧ x2 ≤ 60) → (0 ≤ x3 ∧ x3 ≤ 1) → (0 ≤ x4 ∧ x4 ≤ sc 38) → (seI (vR ai) nv G sc ai al al_ az_ (i1).toNat x2 x3 x4) → (∀ a, a ≠ 259 → az_ a = az a) → ((8001 - x4 : Int).toNat < N) → vm_Wp 3 77 90 7 [some (.ref 238), some (.int (vz i1)), some (.int (vz x2)), some (.int (vz x3)), some (.int (vz x4)), none, none, none] [] vh (vq_P 90 (fun r v1 => ∃ (sc1 : Nat → Int) (ai1 : Nat → Nat → Int) (al1 : Nat → Nat → Int64) (az1 : Nat → Nat → Int32) (q : Int), ((0 ≤ q ∧ q ≤ 1) ∧ seO (vR ai) nv G ai1 al1 (i1).toNat q) ∧ seF (vR ai) nv sc sc1 ai ai1 al al1 az az1 (i1).toNat ∧ r = some (.int (vz q)) ∧ tmok ai1 ∧ tm sc1 ai1 al1 az1 v0 v1))) := by
  have hB1 := hG.1.1.1
  have hn8 := hV.1
  intro N
  induction N with
  | zero => exact (by intros; omega)
  | succ N ih =>
    ·
      intro vh al_ az_ x2 x3 x4 hM hx2 hx3 hx4 hi0 hi1 hN
      refine w_ldI e90_7 (fun _ => rfl) rfl ?_
      refine w_ldA e90_9 (fun _ => rfl) rfl ?_
      have e1 := tm_o hM
      refine w_get e90_10 e1 rfl ?_
      refine w_ic e90_13 (by omega) (tm_s hM 38) (fun (h2 : sc 38 ≤ x4) => ?_) (fun (h2 : x4 < sc 38) => ?_)
      ·
        refine w_ldA e90_140 (fun _ => rfl) rfl ?_
        refine w_kI e90_141 ?_
        refine w_put e90_142 e1 (Nat.le_of_ble_eq_true rfl) rfl (fun v5 b3 h4 => ?_)
        obtain ⟨sc6, hd8, hM7⟩ : ∃ z, z = u1 sc 38 (0) ∧ tm z ai al_ az_ v0 v5 := ⟨_, rfl, tm_ps 38 hM (by omega) b3 h4⟩
        refine w_ldA e90_145 (fun _ => rfl) rfl ?_
        have e9 := tm_o hM7
        refine w_get e90_146 e9 rfl ?_
        refine w_ldI e90_149 (fun _ => rfl) rfl ?_
        refine w_ldI e90_150 (fun _ => rfl) rfl ?_
        have e10 := tm_i hM7 (a := 242) (n := 72) rfl
        refine w_ast e90_151 e10 (by omega) (by omega) (by decide) (by decide) (fun v13 b11 h12 => ?_)
        obtain ⟨ai14, hd16, hM15⟩ : ∃ z, z = u2 ai 242 (i1).toNat x2 ∧ tm sc6 z al_ az_ v0 v13 := ⟨_, rfl, tm_pi hM7 rfl (by omega) b11 h12⟩
        have hK17 : tmok ai14 := by rw [hd16]; exact tmok_c hK (by omega)
        refine w_ldI e90_152 (fun _ => rfl) rfl ?_
        refine w_if e90_153 (by omega) (fun (h18 : x3 = 0) => ?_) (fun (h18 : x3 ≠ 0) => ?_)
        ·
          refine w_ldI e90_161 (fun _ => rfl) rfl ?_
          exact w_rz e90_162 rfl (by omega) ⟨sc6, ai14, al_, az_, x3, ⟨by omega, by rw [show x3 = 0 by omega]; exact seO_n hG hi0 (by omega)⟩, seF_e hi0 hi1 hd8 hd16 (by omega) (Or.inl rfl), rfl, hK17, hM15⟩
        ·
          have hO9 := se_O hG hi0 (by omega) (by omega) (ai1 := ai14) (by rw [hd16, u2_s])
          refine w_ldA e90_156 (fun _ => rfl) rfl ?_
          refine w_ldI e90_157 (fun _ => rfl) rfl ?_
          have e19 := tm_o hM15
          refine w_cv e90_158 (by decide) rfl e19 rfl (Nat.le_of_ble_eq_true rfl) (Nat.le_of_ble_eq_true rfl) (Nat.le_of_ble_eq_true rfl) (by decide) (by decide) (r80 hM15 hK17 (by omega) (seF_v hd8  hv) (by rw [seF_V hd16]; exact hV) (by rw [seF_V hd16]; exact hO9.2) (fun x hx => ⟨hG.2.1.2 x (List.mem_filter.mp hx).1, sm_63 (hO9.1.2 x hx) hn8 (hG.2.1.2 x (List.mem_filter.mp hx).1)⟩)) (fun o20 v21 hq22 => ?_)
          obtain ⟨⟨al23, ⟨hf24, l25, hp26, hs27, hL28⟩, hM29⟩, rfl⟩ := hq22
          refine w_ldI e90_161 (fun _ => rfl) rfl ?_
          exact w_rz e90_162 rfl (by omega) ⟨sc6, ai14, al23, az_, x3, ⟨by omega, by rw [show x3 = 1 by omega]; exact seO_y hG hO9.1 (by omega) hp26 hs27 (by have h9 := hL28; rw [seF_V hd16] at h9; exact h9)⟩, seF_e hi0 hi1 hd8 hd16 (by omega) (Or.inr hf24), rfl, hK17, hM29⟩
      ·
        obtain ⟨y9, w1, w2, w3, w4⟩ := se_x hG (x4 := x4) (by omega)
        refine w_ldA e90_16 (fun _ => rfl) rfl ?_
        refine w_get e90_17 e1 rfl ?_
        refine w_ldI e90_20 (fun _ => rfl) rfl ?_
        have e30 := tm_i hM (a := 260) (n := 8000) rfl
        refine w_ald e90_22 e30 (by omega) (by omega) (by decide) ?_
        show vm_Wp _ _ _ 23 _ [.int (vz (ai 260 (x4).toNat))] _ _
        have hk31 := hG.1.1.2.1 (x4).toNat (by omega)
        refine w_stI (j := 5) (A1 := [some (.ref 238), some (.int (vz i1)), some (.int (vz x2)), some (.int (vz x3)), some (.int (vz x4)), some (.int (vz (ai 260 (x4).toNat))), none, none]) e90_23 (fun _ => rfl) (by decide) rfl ?_
        refine w_ldA e90_25 (fun _ => rfl) rfl ?_
        refine w_get e90_26 e1 rfl ?_
        refine w_ldI e90_29 (fun _ => rfl) rfl ?_
        have e32 := tm_l hM (a := 258) (n := 16384) rfl
        refine w_lld e90_31 e32 (by omega) (by omega) (by decide) ?_
        have hc9 : (al_ 258 (ai 260 (x4).toNat).toNat) = y9.2 := by rw [hi0.1.1 258 (by decide) (by decide)]; exact w3
        refine w_stL (j := 6) (A1 := [some (.ref 238), some (.int (vz i1)), some (.int (vz x2)), some (.int (vz x3)), some (.int (vz x4)), some (.int (vz (ai 260 (x4).toNat))), some (.long ((al_ 258 (ai 260 (x4).toNat).toNat))), none]) e90_32 (fun _ => rfl) (by decide) rfl ?_
        refine w_ldA e90_34 (fun _ => rfl) rfl ?_
        refine w_get e90_35 e1 rfl ?_
        refine w_ldI e90_38 (fun _ => rfl) rfl ?_
        refine w_kI e90_40 ?_
        have e33 := tm_z hM (a := 259) (n := 16384) rfl
        refine w_zst e90_41 e33 (by omega) (by omega) (by decide) (fun v36 b34 h35 => ?_)
        obtain ⟨az37, hd39, hM38⟩ : ∃ z, z = u2 az_ 259 (ai 260 (x4).toNat).toNat (vz 0 &&& 1) ∧ tm sc ai al_ z v0 v36 := ⟨_, rfl, tm_pz hM rfl b34 h35⟩
        refine w_ldL e90_42 (fun _ => rfl) rfl ?_
        refine w_x e90_44 (fun _ => rfl) ?_
        refine w_lcmp e90_45 (fun q40 (h41 : -1 ≤ q40 ∧ q40 ≤ 1) h42 h43 => ?_)
        have hc44 : (q40 = 0 ↔ ((al_ 258 (ai 260 (x4).toNat).toNat)).toInt = ((Int64.ofNat 0)).toInt) ∧ (q40 < 0 ↔ ((al_ 258 (ai 260 (x4).toNat).toNat)).toInt < ((Int64.ofNat 0)).toInt) := lc_i h42 h43
        have hc45 : (Int64.ofNat 0).toInt = 0 := rfl
        refine w_if e90_46 (by omega) (fun (h46 : q40 = 0) => ?_) (fun (h46 : q40 ≠ 0) => ?_)
        ·
          refine w_iinc (A1 := [some (.ref 238), some (.int (vz i1)), some (.int (vz x2)), some (.int (vz x3)), some (.int (vz (x4 + 1))), some (.int (vz (ai 260 (x4).toNat))), some (.long ((al_ 258 (ai 260 (x4).toNat).toNat))), none]) e90_134 rfl (by decide) rfl ?_
          refine w_x e90_137 (fun _ => rfl) ?_
          exact w_sub (A1 := [some (.ref 238), some (.int (vz i1)), some (.int (vz x2)), some (.int (vz x3)), some (.int (vz (x4 + 1))), none, none, none]) (And.intro rfl (And.intro rfl (And.intro rfl (And.intro rfl (And.intro rfl trivial))))) ((ih) v36 al_ az37 x2 x3 (x4 + 1) hM38 (by omega) (by omega) (by omega) (se_z hi0 w1 (by omega) (Or.inl (hc9.symm.trans (h42.mp (by omega)))) (by decide) hd39) (fun a ha => by rw [hd39, u2_af ha]; exact hi1 a ha) (by omega))
        ·
          refine w_ldI e90_49 (fun _ => rfl) rfl ?_
          refine w_if e90_50 (by omega) (fun (h47 : x3 = 0) => ?_) (fun (h47 : x3 ≠ 0) => ?_)
          ·
            refine w_iinc (A1 := [some (.ref 238), some (.int (vz i1)), some (.int (vz x2)), some (.int (vz x3)), some (.int (vz (x4 + 1))), some (.int (vz (ai 260 (x4).toNat))), some (.long ((al_ 258 (ai 260 (x4).toNat).toNat))), none]) e90_134 rfl (by decide) rfl ?_
            refine w_x e90_137 (fun _ => rfl) ?_
            exact w_sub (A1 := [some (.ref 238), some (.int (vz i1)), some (.int (vz x2)), some (.int (vz x3)), some (.int (vz (x4 + 1))), none, none, none]) (And.intro rfl (And.intro rfl (And.intro rfl (And.intro rfl (And.intro rfl trivial))))) ((ih) v36 al_ az37 x2 x3 (x4 + 1) hM38 (by omega) (by omega) (by omega) (se_z hi0 w1 (by omega) (Or.inr (by omega)) (by decide) hd39) (fun a ha => by rw [hd39, u2_af ha]; exact hi1 a ha) (by omega))
          ·
            refine w_ldI e90_53 (fun _ => rfl) rfl ?_
            refine w_kB e90_54 rfl ?_
            refine w_ic e90_56 (by omega) (by omega) (fun (h48 : 60 ≤ x2) => ?_) (fun (h48 : x2 < 60) => ?_)
            ·
              refine w_kI e90_94 ?_
              refine w_stI (j := 3) (A1 := [some (.ref 238), some (.int (vz i1)), some (.int (vz x2)), some (.int (vz 0)), some (.int (vz x4)), some (.int (vz (ai 260 (x4).toNat))), some (.long ((al_ 258 (ai 260 (x4).toNat).toNat))), none]) e90_95 (fun _ => rfl) (by decide) rfl ?_
              refine w_ldI e90_96 (fun _ => rfl) rfl ?_
              refine w_if e90_97 (by omega) (fun (h49 : 0 = 0) => ?_) (fun (h49 : 0 ≠ 0) => ?_)
              ·
                refine w_iinc (A1 := [some (.ref 238), some (.int (vz i1)), some (.int (vz x2)), some (.int (vz 0)), some (.int (vz (x4 + 1))), some (.int (vz (ai 260 (x4).toNat))), some (.long ((al_ 258 (ai 260 (x4).toNat).toNat))), none]) e90_134 rfl (by decide) rfl ?_
                refine w_x e90_137 (fun _ => rfl) ?_
                exact w_sub (A1 := [some (.ref 238), some (.int (vz i1)), some (.int (vz x2)), some (.int (vz 0)), some (.int (vz (x4 + 1))), none, none, none]) (And.intro rfl (And.intro rfl (And.intro rfl (And.intro rfl (And.intro rfl trivial))))) ((ih) v36 al_ az37 x2 0 (x4 + 1) hM38 (by omega) (by omega) (by omega) (se_bad hi0 w1 w4 (by omega) (by decide) hd39 (by omega) (fun e9 => absurd (h42.mpr (hc9.trans e9)) (by omega)) (Or.inl (by omega))) (fun a ha => by rw [hd39, u2_af ha]; exact hi1 a ha) (by omega))
              ·
                refine w_ldA e90_100 (fun _ => rfl) rfl ?_
                have e50 := tm_o hM38
                refine w_get e90_101 e50 rfl ?_
                refine w_kB e90_104 rfl ?_
                refine w_ldI e90_106 (fun _ => rfl) rfl ?_
                refine w_imul e90_107 ?_
                refine w_ldI e90_108 (fun _ => rfl) rfl ?_
                refine w_iadd e90_109 ?_
                refine w_ldL e90_110 (fun _ => rfl) rfl ?_
                have e51 := tm_l hM38 (a := 243) (n := 4320) rfl
                refine w_lst e90_112 e51 (by omega) (by omega) (by decide) (fun v54 b52 h53 => ?_)
                obtain ⟨al55, hd57, hM56⟩ : ∃ z, z = u2 al_ 243 ((60 * i1) + x2).toNat ((al_ 258 (ai 260 (x4).toNat).toNat)) ∧ tm sc ai z az37 v0 v54 := ⟨_, rfl, tm_pl hM38 rfl b52 h53⟩
                refine w_ldA e90_113 (fun _ => rfl) rfl ?_
                have e58 := tm_o hM56
                refine w_get e90_114 e58 rfl ?_
                refine w_kB e90_117 rfl ?_
                refine w_ldI e90_119 (fun _ => rfl) rfl ?_
                refine w_imul e90_120 ?_
                refine w_ldI e90_121 (fun _ => rfl) rfl ?_
                refine w_iadd e90_122 ?_
                refine w_ldA e90_123 (fun _ => rfl) rfl ?_
                refine w_get e90_124 e58 rfl ?_
                refine w_ldI e90_127 (fun _ => rfl) rfl ?_
                have e59 := tm_l hM56 (a := 257) (n := 16384) rfl
                refine w_lld e90_129 e59 (by omega) (by omega) (by decide) ?_
                have e60 := tm_l hM56 (a := 244) (n := 4320) rfl
                refine w_lst e90_130 e60 (by omega) (by omega) (by decide) (fun v63 b61 h62 => ?_)
                obtain ⟨al64, hd66, hM65⟩ : ∃ z, z = u2 al55 244 ((60 * i1) + x2).toNat ((al55 257 (ai 260 (x4).toNat).toNat)) ∧ tm sc ai z az37 v0 v63 := ⟨_, rfl, tm_pl hM56 rfl b61 h62⟩
                refine w_iinc (A1 := [some (.ref 238), some (.int (vz i1)), some (.int (vz (x2 + 1))), some (.int (vz 0)), some (.int (vz x4)), some (.int (vz (ai 260 (x4).toNat))), some (.long ((al_ 258 (ai 260 (x4).toNat).toNat))), none]) e90_131 rfl (by decide) rfl ?_
                refine w_iinc (A1 := [some (.ref 238), some (.int (vz i1)), some (.int (vz (x2 + 1))), some (.int (vz 0)), some (.int (vz (x4 + 1))), some (.int (vz (ai 260 (x4).toNat))), some (.long ((al_ 258 (ai 260 (x4).toNat).toNat))), none]) e90_134 rfl (by decide) rfl ?_
                refine w_x e90_137 (fun _ => rfl) ?_
                exact w_sub (A1 := [some (.ref 238), some (.int (vz i1)), some (.int (vz (x2 + 1))), some (.int (vz 0)), some (.int (vz (x4 + 1))), none, none, none]) (And.intro rfl (And.intro rfl (And.intro rfl (And.intro rfl (And.intro rfl trivial))))) ((ih) v63 al64 az37 (x2 + 1) 0 (x4 + 1) hM65 (by omega) (by omega) (by omega) (by exfalso; omega) (fun a ha => by rw [hd39, u2_af ha]; exact hi1 a ha) (by omega))
            ·
              refine w_ldL e90_59 (fun _ => rfl) rfl ?_
              refine w_x e90_61 (fun _ => rfl) ?_
              refine w_lcmp e90_64 (fun q67 (h68 : -1 ≤ q67 ∧ q67 ≤ 1) h69 h70 => ?_)
              have hc71 : (q67 = 0 ↔ ((al_ 258 (ai 260 (x4).toNat).toNat)).toInt = ((Int64.ofNat 18446744073642442752)).toInt) ∧ (q67 < 0 ↔ ((al_ 258 (ai 260 (x4).toNat).toNat)).toInt < ((Int64.ofNat 18446744073642442752)).toInt) := lc_i h69 h70
              have hc72 : (Int64.ofNat 18446744073642442752).toInt = -67108864 := rfl
              refine w_if e90_65 (by omega) (fun (h73 : q67 < 0) => ?_) (fun (h73 : 0 ≤ q67) => ?_)
              ·
                refine w_kI e90_94 ?_
                refine w_stI (j := 3) (A1 := [some (.ref 238), some (.int (vz i1)), some (.int (vz x2)), some (.int (vz 0)), some (.int (vz x4)), some (.int (vz (ai 260 (x4).toNat))), some (.long ((al_ 258 (ai 260 (x4).toNat).toNat))), none]) e90_95 (fun _ => rfl) (by decide) rfl ?_
                refine w_ldI e90_96 (fun _ => rfl) rfl ?_
                refine w_if e90_97 (by omega) (fun (h74 : 0 = 0) => ?_) (fun (h74 : 0 ≠ 0) => ?_)
                ·
                  refine w_iinc (A1 := [some (.ref 238), some (.int (vz i1)), some (.int (vz x2)), some (.int (vz 0)), some (.int (vz (x4 + 1))), some (.int (vz (ai 260 (x4).toNat))), some (.long ((al_ 258 (ai 260 (x4).toNat).toNat))), none]) e90_134 rfl (by decide) rfl ?_
                  refine w_x e90_137 (fun _ => rfl) ?_
                  exact w_sub (A1 := [some (.ref 238), some (.int (vz i1)), some (.int (vz x2)), some (.int (vz 0)), some (.int (vz (x4 + 1))), none, none, none]) (And.intro rfl (And.intro rfl (And.intro rfl (And.intro rfl (And.intro rfl trivial))))) ((ih) v36 al_ az37 x2 0 (x4 + 1) hM38 (by omega) (by omega) (by omega) (se_bad hi0 w1 w4 (by omega) (by decide) hd39 (by omega) (fun e9 => absurd (h42.mpr (hc9.trans e9)) (by omega)) (Or.inr (fun z => by have h9 := z.1; rw [← hc9] at h9; omega))) (fun a ha => by rw [hd39, u2_af ha]; exact hi1 a ha) (by omega))
                ·
                  refine w_ldA e90_100 (fun _ => rfl) rfl ?_
                  have e75 := tm_o hM38
                  refine w_get e90_101 e75 rfl ?_
                  refine w_kB e90_104 rfl ?_
                  refine w_ldI e90_106 (fun _ => rfl) rfl ?_
                  refine w_imul e90_107 ?_
                  refine w_ldI e90_108 (fun _ => rfl) rfl ?_
                  refine w_iadd e90_109 ?_
                  refine w_ldL e90_110 (fun _ => rfl) rfl ?_
                  have e76 := tm_l hM38 (a := 243) (n := 4320) rfl
                  refine w_lst e90_112 e76 (by omega) (by omega) (by decide) (fun v79 b77 h78 => ?_)
                  obtain ⟨al80, hd82, hM81⟩ : ∃ z, z = u2 al_ 243 ((60 * i1) + x2).toNat ((al_ 258 (ai 260 (x4).toNat).toNat)) ∧ tm sc ai z az37 v0 v79 := ⟨_, rfl, tm_pl hM38 rfl b77 h78⟩
                  refine w_ldA e90_113 (fun _ => rfl) rfl ?_
                  have e83 := tm_o hM81
                  refine w_get e90_114 e83 rfl ?_
                  refine w_kB e90_117 rfl ?_
                  refine w_ldI e90_119 (fun _ => rfl) rfl ?_
                  refine w_imul e90_120 ?_
                  refine w_ldI e90_121 (fun _ => rfl) rfl ?_
                  refine w_iadd e90_122 ?_
                  refine w_ldA e90_123 (fun _ => rfl) rfl ?_
                  refine w_get e90_124 e83 rfl ?_
                  refine w_ldI e90_127 (fun _ => rfl) rfl ?_
                  have e84 := tm_l hM81 (a := 257) (n := 16384) rfl
                  refine w_lld e90_129 e84 (by omega) (by omega) (by decide) ?_
                  have e85 := tm_l hM81 (a := 244) (n := 4320) rfl
                  refine w_lst e90_130 e85 (by omega) (by omega) (by decide) (fun v88 b86 h87 => ?_)
                  obtain ⟨al89, hd91, hM90⟩ : ∃ z, z = u2 al80 244 ((60 * i1) + x2).toNat ((al80 257 (ai 260 (x4).toNat).toNat)) ∧ tm sc ai z az37 v0 v88 := ⟨_, rfl, tm_pl hM81 rfl b86 h87⟩
                  refine w_iinc (A1 := [some (.ref 238), some (.int (vz i1)), some (.int (vz (x2 + 1))), some (.int (vz 0)), some (.int (vz x4)), some (.int (vz (ai 260 (x4).toNat))), some (.long ((al_ 258 (ai 260 (x4).toNat).toNat))), none]) e90_131 rfl (by decide) rfl ?_
                  refine w_iinc (A1 := [some (.ref 238), some (.int (vz i1)), some (.int (vz (x2 + 1))), some (.int (vz 0)), some (.int (vz (x4 + 1))), some (.int (vz (ai 260 (x4).toNat))), some (.long ((al_ 258 (ai 260 (x4).toNat).toNat))), none]) e90_134 rfl (by decide) rfl ?_
                  refine w_x e90_137 (fun _ => rfl) ?_
                  exact w_sub (A1 := [some (.ref 238), some (.int (vz i1)), some (.int (vz (x2 + 1))), some (.int (vz 0)), some (.int (vz (x4 + 1))), none, none, none]) (And.intro rfl (And.intro rfl (And.intro rfl (And.intro rfl (And.intro rfl trivial))))) ((ih) v88 al89 az37 (x2 + 1) 0 (x4 + 1) hM90 (by omega) (by omega) (by omega) (by exfalso; omega) (fun a ha => by rw [hd39, u2_af ha]; exact hi1 a ha) (by omega))
              ·
                refine w_ldL e90_68 (fun _ => rfl) rfl ?_
                refine w_x e90_70 (fun _ => rfl) ?_
                refine w_lcmp e90_73 (fun q92 (h93 : -1 ≤ q92 ∧ q92 ≤ 1) h94 h95 => ?_)
                have hc96 : (q92 = 0 ↔ ((al_ 258 (ai 260 (x4).toNat).toNat)).toInt = ((Int64.ofNat 67108864)).toInt) ∧ (q92 < 0 ↔ ((al_ 258 (ai 260 (x4).toNat).toNat)).toInt < ((Int64.ofNat 67108864)).toInt) := lc_i h94 h95
                have hc97 : (Int64.ofNat 67108864).toInt = 67108864 := rfl
                refine w_if e90_74 (by omega) (fun (h98 : 0 < q92) => ?_) (fun (h98 : q92 ≤ 0) => ?_)
                ·
                  refine w_kI e90_94 ?_
                  refine w_stI (j := 3) (A1 := [some (.ref 238), some (.int (vz i1)), some (.int (vz x2)), some (.int (vz 0)), some (.int (vz x4)), some (.int (vz (ai 260 (x4).toNat))), some (.long ((al_ 258 (ai 260 (x4).toNat).toNat))), none]) e90_95 (fun _ => rfl) (by decide) rfl ?_
                  refine w_ldI e90_96 (fun _ => rfl) rfl ?_
                  refine w_if e90_97 (by omega) (fun (h99 : 0 = 0) => ?_) (fun (h99 : 0 ≠ 0) => ?_)
                  ·
                    refine w_iinc (A1 := [some (.ref 238), some (.int (vz i1)), some (.int (vz x2)), some (.int (vz 0)), some (.int (vz (x4 + 1))), some (.int (vz (ai 260 (x4).toNat))), some (.long ((al_ 258 (ai 260 (x4).toNat).toNat))), none]) e90_134 rfl (by decide) rfl ?_
                    refine w_x e90_137 (fun _ => rfl) ?_
                    exact w_sub (A1 := [some (.ref 238), some (.int (vz i1)), some (.int (vz x2)), some (.int (vz 0)), some (.int (vz (x4 + 1))), none, none, none]) (And.intro rfl (And.intro rfl (And.intro rfl (And.intro rfl (And.intro rfl trivial))))) ((ih) v36 al_ az37 x2 0 (x4 + 1) hM38 (by omega) (by omega) (by omega) (se_bad hi0 w1 w4 (by omega) (by decide) hd39 (by omega) (fun e9 => absurd (h42.mpr (hc9.trans e9)) (by omega)) (Or.inr (fun z => by have h9 := z.1; rw [← hc9] at h9; omega))) (fun a ha => by rw [hd39, u2_af ha]; exact hi1 a ha) (by omega))
                  ·
                    refine w_ldA e90_100 (fun _ => rfl) rfl ?_
                    have e100 := tm_o hM38
                    refine w_get e90_101 e100 rfl ?_
                    refine w_kB e90_104 rfl ?_
                    refine w_ldI e90_106 (fun _ => rfl) rfl ?_
                    refine w_imul e90_107 ?_
                    refine w_ldI e90_108 (fun _ => rfl) rfl ?_
                    refine w_iadd e90_109 ?_
                    refine w_ldL e90_110 (fun _ => rfl) rfl ?_
                    have e101 := tm_l hM38 (a := 243) (n := 4320) rfl
                    refine w_lst e90_112 e101 (by omega) (by omega) (by decide) (fun v104 b102 h103 => ?_)
                    obtain ⟨al105, hd107, hM106⟩ : ∃ z, z = u2 al_ 243 ((60 * i1) + x2).toNat ((al_ 258 (ai 260 (x4).toNat).toNat)) ∧ tm sc ai z az37 v0 v104 := ⟨_, rfl, tm_pl hM38 rfl b102 h103⟩
                    refine w_ldA e90_113 (fun _ => rfl) rfl ?_
                    have e108 := tm_o hM106
                    refine w_get e90_114 e108 rfl ?_
                    refine w_kB e90_117 rfl ?_
                    refine w_ldI e90_119 (fun _ => rfl) rfl ?_
                    refine w_imul e90_120 ?_
                    refine w_ldI e90_121 (fun _ => rfl) rfl ?_
                    refine w_iadd e90_122 ?_
                    refine w_ldA e90_123 (fun _ => rfl) rfl ?_
                    refine w_get e90_124 e108 rfl ?_
                    refine w_ldI e90_127 (fun _ => rfl) rfl ?_
                    have e109 := tm_l hM106 (a := 257) (n := 16384) rfl
                    refine w_lld e90_129 e109 (by omega) (by omega) (by decide) ?_
                    have e110 := tm_l hM106 (a := 244) (n := 4320) rfl
                    refine w_lst e90_130 e110 (by omega) (by omega) (by decide) (fun v113 b111 h112 => ?_)
                    obtain ⟨al114, hd116, hM115⟩ : ∃ z, z = u2 al105 244 ((60 * i1) + x2).toNat ((al105 257 (ai 260 (x4).toNat).toNat)) ∧ tm sc ai z az37 v0 v113 := ⟨_, rfl, tm_pl hM106 rfl b111 h112⟩
                    refine w_iinc (A1 := [some (.ref 238), some (.int (vz i1)), some (.int (vz (x2 + 1))), some (.int (vz 0)), some (.int (vz x4)), some (.int (vz (ai 260 (x4).toNat))), some (.long ((al_ 258 (ai 260 (x4).toNat).toNat))), none]) e90_131 rfl (by decide) rfl ?_
                    refine w_iinc (A1 := [some (.ref 238), some (.int (vz i1)), some (.int (vz (x2 + 1))), some (.int (vz 0)), some (.int (vz (x4 + 1))), some (.int (vz (ai 260 (x4).toNat))), some (.long ((al_ 258 (ai 260 (x4).toNat).toNat))), none]) e90_134 rfl (by decide) rfl ?_
                    refine w_x e90_137 (fun _ => rfl) ?_
                    exact w_sub (A1 := [some (.ref 238), some (.int (vz i1)), some (.int (vz (x2 + 1))), some (.int (vz 0)), some (.int (vz (x4 + 1))), none, none, none]) (And.intro rfl (And.intro rfl (And.intro rfl (And.intro rfl (And.intro rfl trivial))))) ((ih) v113 al114 az37 (x2 + 1) 0 (x4 + 1) hM115 (by omega) (by omega) (by omega) (by exfalso; omega) (fun a ha => by rw [hd39, u2_af ha]; exact hi1 a ha) (by omega))
                ·
                  refine w_ldA e90_77 (fun _ => rfl) rfl ?_
                  have e117 := tm_o hM38
                  refine w_get e90_78 e117 rfl ?_
                  refine w_ldI e90_81 (fun _ => rfl) rfl ?_
                  have e118 := tm_l hM38 (a := 257) (n := 16384) rfl
                  refine w_lld e90_83 e118 (by omega) (by omega) (by decide) ?_
                  have hk9 : (al_ 257 (ai 260 (x4).toNat).toNat) = Int64.ofNat (tr (vR ai) nv y9.1) := by rw [hi0.1.1 257 (by decide) (by decide)]; exact w2
                  refine w_cs e90_84 (by decide) (Nat.le_of_ble_eq_true rfl) (Nat.le_of_ble_eq_true rfl) (Nat.le_of_ble_eq_true rfl) (by decide) (by decide) (r89) (fun o119 v120 hq121 => ?_)
                  obtain ⟨rfl, q122, h123, rfl⟩ := hq121
                  have hb124 := h123.1
                  have hsm9 := sm_k hV (hG.2.1.2 y9 w4) hk9 h123.2
                  refine w_if e90_87 (by omega) (fun (h125 : q122 = 0) => ?_) (fun (h125 : q122 ≠ 0) => ?_)
                  ·
                    refine w_kI e90_94 ?_
                    refine w_stI (j := 3) (A1 := [some (.ref 238), some (.int (vz i1)), some (.int (vz x2)), some (.int (vz 0)), some (.int (vz x4)), some (.int (vz (ai 260 (x4).toNat))), some (.long ((al_ 258 (ai 260 (x4).toNat).toNat))), none]) e90_95 (fun _ => rfl) (by decide) rfl ?_
                    refine w_ldI e90_96 (fun _ => rfl) rfl ?_
                    refine w_if e90_97 (by omega) (fun (h126 : 0 = 0) => ?_) (fun (h126 : 0 ≠ 0) => ?_)
                    ·
                      refine w_iinc (A1 := [some (.ref 238), some (.int (vz i1)), some (.int (vz x2)), some (.int (vz 0)), some (.int (vz (x4 + 1))), some (.int (vz (ai 260 (x4).toNat))), some (.long ((al_ 258 (ai 260 (x4).toNat).toNat))), none]) e90_134 rfl (by decide) rfl ?_
                      refine w_x e90_137 (fun _ => rfl) ?_
                      exact w_sub (A1 := [some (.ref 238), some (.int (vz i1)), some (.int (vz x2)), some (.int (vz 0)), some (.int (vz (x4 + 1))), none, none, none]) (And.intro rfl (And.intro rfl (And.intro rfl (And.intro rfl (And.intro rfl trivial))))) ((ih) v36 al_ az37 x2 0 (x4 + 1) hM38 (by omega) (by omega) (by omega) (se_bad hi0 w1 w4 (by omega) (by decide) hd39 (by omega) (fun e9 => absurd (h42.mpr (hc9.trans e9)) (by omega)) (Or.inr (fun z => by have h9 := hsm9.mpr z.2; omega))) (fun a ha => by rw [hd39, u2_af ha]; exact hi1 a ha) (by omega))
                    ·
                      refine w_ldA e90_100 (fun _ => rfl) rfl ?_
                      refine w_get e90_101 e117 rfl ?_
                      refine w_kB e90_104 rfl ?_
                      refine w_ldI e90_106 (fun _ => rfl) rfl ?_
                      refine w_imul e90_107 ?_
                      refine w_ldI e90_108 (fun _ => rfl) rfl ?_
                      refine w_iadd e90_109 ?_
                      refine w_ldL e90_110 (fun _ => rfl) rfl ?_
                      have e127 := tm_l hM38 (a := 243) (n := 4320) rfl
                      refine w_lst e90_112 e127 (by omega) (by omega) (by decide) (fun v130 b128 h129 => ?_)
                      obtain ⟨al131, hd133, hM132⟩ : ∃ z, z = u2 al_ 243 ((60 * i1) + x2).toNat ((al_ 258 (ai 260 (x4).toNat).toNat)) ∧ tm sc ai z az37 v0 v130 := ⟨_, rfl, tm_pl hM38 rfl b128 h129⟩
                      refine w_ldA e90_113 (fun _ => rfl) rfl ?_
                      have e134 := tm_o hM132
                      refine w_get e90_114 e134 rfl ?_
                      refine w_kB e90_117 rfl ?_
                      refine w_ldI e90_119 (fun _ => rfl) rfl ?_
                      refine w_imul e90_120 ?_
                      refine w_ldI e90_121 (fun _ => rfl) rfl ?_
                      refine w_iadd e90_122 ?_
                      refine w_ldA e90_123 (fun _ => rfl) rfl ?_
                      refine w_get e90_124 e134 rfl ?_
                      refine w_ldI e90_127 (fun _ => rfl) rfl ?_
                      have e135 := tm_l hM132 (a := 257) (n := 16384) rfl
                      refine w_lld e90_129 e135 (by omega) (by omega) (by decide) ?_
                      have hk8 : (al131 257 (ai 260 (x4).toNat).toNat) = Int64.ofNat (tr (vR ai) nv y9.1) := by rw [hd133, u2_af (by decide)]; exact hk9
                      have e136 := tm_l hM132 (a := 244) (n := 4320) rfl
                      refine w_lst e90_130 e136 (by omega) (by omega) (by decide) (fun v139 b137 h138 => ?_)
                      obtain ⟨al140, hd142, hM141⟩ : ∃ z, z = u2 al131 244 ((60 * i1) + x2).toNat ((al131 257 (ai 260 (x4).toNat).toNat)) ∧ tm sc ai z az37 v0 v139 := ⟨_, rfl, tm_pl hM132 rfl b137 h138⟩
                      refine w_iinc (A1 := [some (.ref 238), some (.int (vz i1)), some (.int (vz (x2 + 1))), some (.int (vz 0)), some (.int (vz x4)), some (.int (vz (ai 260 (x4).toNat))), some (.long ((al_ 258 (ai 260 (x4).toNat).toNat))), none]) e90_131 rfl (by decide) rfl ?_
                      refine w_iinc (A1 := [some (.ref 238), some (.int (vz i1)), some (.int (vz (x2 + 1))), some (.int (vz 0)), some (.int (vz (x4 + 1))), some (.int (vz (ai 260 (x4).toNat))), some (.long ((al_ 258 (ai 260 (x4).toNat).toNat))), none]) e90_134 rfl (by decide) rfl ?_
                      refine w_x e90_137 (fun _ => rfl) ?_
                      exact w_sub (A1 := [some (.ref 238), some (.int (vz i1)), some (.int (vz (x2 + 1))), some (.int (vz 0)), some (.int (vz (x4 + 1))), none, none, none]) (And.intro rfl (And.intro rfl (And.intro rfl (And.intro rfl (And.intro rfl trivial))))) ((ih) v139 al140 az37 (x2 + 1) 0 (x4 + 1) hM141 (by omega) (by omega) (by omega) (by exfalso; omega) (fun a ha => by rw [hd39, u2_af ha]; exact hi1 a ha) (by omega))
                  ·
                    refine w_kI e90_90 ?_
                    refine w_x e90_91 (fun _ => rfl) ?_
                    refine w_stI (j := 3) (A1 := [some (.ref 238), some (.int (vz i1)), some (.int (vz x2)), some (.int (vz 1)), some (.int (vz x4)), some (.int (vz (ai 260 (x4).toNat))), some (.long ((al_ 258 (ai 260 (x4).toNat).toNat))), none]) e90_95 (fun _ => rfl) (by decide) rfl ?_
                    refine w_ldI e90_96 (fun _ => rfl) rfl ?_
                    refine w_if e90_97 (by omega) (fun (h143 : 1 = 0) => ?_) (fun (h143 : 1 ≠ 0) => ?_)
                    ·
                      refine w_iinc (A1 := [some (.ref 238), some (.int (vz i1)), some (.int (vz x2)), some (.int (vz 1)), some (.int (vz (x4 + 1))), some (.int (vz (ai 260 (x4).toNat))), some (.long ((al_ 258 (ai 260 (x4).toNat).toNat))), none]) e90_134 rfl (by decide) rfl ?_
                      refine w_x e90_137 (fun _ => rfl) ?_
                      exact w_sub (A1 := [some (.ref 238), some (.int (vz i1)), some (.int (vz x2)), some (.int (vz 1)), some (.int (vz (x4 + 1))), none, none, none]) (And.intro rfl (And.intro rfl (And.intro rfl (And.intro rfl (And.intro rfl trivial))))) ((ih) v36 al_ az37 x2 1 (x4 + 1) hM38 (by omega) (by omega) (by omega) (by exfalso; omega) (fun a ha => by rw [hd39, u2_af ha]; exact hi1 a ha) (by omega))
                    ·
                      refine w_ldA e90_100 (fun _ => rfl) rfl ?_
                      refine w_get e90_101 e117 rfl ?_
                      refine w_kB e90_104 rfl ?_
                      refine w_ldI e90_106 (fun _ => rfl) rfl ?_
                      refine w_imul e90_107 ?_
                      refine w_ldI e90_108 (fun _ => rfl) rfl ?_
                      refine w_iadd e90_109 ?_
                      refine w_ldL e90_110 (fun _ => rfl) rfl ?_
                      have e144 := tm_l hM38 (a := 243) (n := 4320) rfl
                      refine w_lst e90_112 e144 (by omega) (by omega) (by decide) (fun v147 b145 h146 => ?_)
                      obtain ⟨al148, hd150, hM149⟩ : ∃ z, z = u2 al_ 243 ((60 * i1) + x2).toNat ((al_ 258 (ai 260 (x4).toNat).toNat)) ∧ tm sc ai z az37 v0 v147 := ⟨_, rfl, tm_pl hM38 rfl b145 h146⟩
                      refine w_ldA e90_113 (fun _ => rfl) rfl ?_
                      have e151 := tm_o hM149
                      refine w_get e90_114 e151 rfl ?_
                      refine w_kB e90_117 rfl ?_
                      refine w_ldI e90_119 (fun _ => rfl) rfl ?_
                      refine w_imul e90_120 ?_
                      refine w_ldI e90_121 (fun _ => rfl) rfl ?_
                      refine w_iadd e90_122 ?_
                      refine w_ldA e90_123 (fun _ => rfl) rfl ?_
                      refine w_get e90_124 e151 rfl ?_
                      refine w_ldI e90_127 (fun _ => rfl) rfl ?_
                      have e152 := tm_l hM149 (a := 257) (n := 16384) rfl
                      refine w_lld e90_129 e152 (by omega) (by omega) (by decide) ?_
                      have hk8 : (al148 257 (ai 260 (x4).toNat).toNat) = Int64.ofNat (tr (vR ai) nv y9.1) := by rw [hd150, u2_af (by decide)]; exact hk9
                      have e153 := tm_l hM149 (a := 244) (n := 4320) rfl
                      refine w_lst e90_130 e153 (by omega) (by omega) (by decide) (fun v156 b154 h155 => ?_)
                      obtain ⟨al157, hd159, hM158⟩ : ∃ z, z = u2 al148 244 ((60 * i1) + x2).toNat ((al148 257 (ai 260 (x4).toNat).toNat)) ∧ tm sc ai z az37 v0 v156 := ⟨_, rfl, tm_pl hM149 rfl b154 h155⟩
                      refine w_iinc (A1 := [some (.ref 238), some (.int (vz i1)), some (.int (vz (x2 + 1))), some (.int (vz 1)), some (.int (vz x4)), some (.int (vz (ai 260 (x4).toNat))), some (.long ((al_ 258 (ai 260 (x4).toNat).toNat))), none]) e90_131 rfl (by decide) rfl ?_
                      refine w_iinc (A1 := [some (.ref 238), some (.int (vz i1)), some (.int (vz (x2 + 1))), some (.int (vz 1)), some (.int (vz (x4 + 1))), some (.int (vz (ai 260 (x4).toNat))), some (.long ((al_ 258 (ai 260 (x4).toNat).toNat))), none]) e90_134 rfl (by decide) rfl ?_
                      refine w_x e90_137 (fun _ => rfl) ?_
                      exact w_sub (A1 := [some (.ref 238), some (.int (vz i1)), some (.int (vz (x2 + 1))), some (.int (vz 1)), some (.int (vz (x4 + 1))), none, none, none]) (And.intro rfl (And.intro rfl (And.intro rfl (And.intro rfl (And.intro rfl trivial))))) ((ih) v156 al157 az37 (x2 + 1) 1 (x4 + 1) hM158 (by omega) (by omega) (by omega) (se_ok hi0 w1 (by omega) (by decide) hd39 (by omega) (fun e9 => absurd (h42.mpr (hc9.trans e9)) (by omega)) ⟨by rw [← hc9]; omega, hsm9.mp (by omega)⟩ (by omega) (so_x (by omega) (by omega)) hc9 hk8 hd150 hd159) (fun a ha => by rw [hd39, u2_af ha]; exact hi1 a ha) (by omega))
set_option maxRecDepth 100000 in
set_option maxHeartbeats 4000000 in
theorem r90 {sc : Nat → Int} {ai : Nat → Nat → Int} {al : Nat → Nat → Int64} {az : Nat → Nat → Int32} {v0 vh : vm_H} (hM : tm sc ai al az v0 vh) (hK : tmok ai) {i1 : Int} (hi_1 : 0 ≤ i1 ∧ i1 < 72) {nv : Nat} (hv : sc 1 = (nv : Int)) (hV : pmV (vR ai) nv) {G : Po} (hG : tbG (vR ai) nv sc ai al az G) : vm_Rp 3 77 90 [.ref 238, .int (vz i1)] vh (fun r v1 => ∃ (sc1 : Nat → Int) (ai1 : Nat → Nat → Int) (al1 : Nat → Nat → Int64) (az1 : Nat → Nat → Int32) (q : Int), ((0 ≤ q ∧ q ≤ 1) ∧ seO (vR ai) nv G ai1 al1 (i1).toNat q) ∧ seF (vR ai) nv sc sc1 ai ai1 al al1 az az1 (i1).toNat ∧ r = some (.int (vz q)) ∧ tmok ai1 ∧ tm sc1 ai1 al1 az1 v0 v1) := by
  have hB1 := hG.1.1.1
  have hn8 := hV.1
  refine w_in (m := 6) ?_
  show vm_Wp _ _ _ 0 [some (.ref 238), some (.int (vz i1)), none, none, none, none, none, none] [] _ _
  refine w_kI e90_0 ?_
  refine w_stI (j := 2) (A1 := [some (.ref 238), some (.int (vz i1)), some (.int (vz 0)), none, none, none, none, none]) e90_1 (fun _ => rfl) (by decide) rfl ?_
  refine w_kI e90_2 ?_
  refine w_stI (j := 3) (A1 := [some (.ref 238), some (.int (vz i1)), some (.int (vz 0)), some (.int (vz 1)), none, none, none, none]) e90_3 (fun _ => rfl) (by decide) rfl ?_
  refine w_kI e90_4 ?_
  refine w_stI (j := 4) (A1 := [some (.ref 238), some (.int (vz i1)), some (.int (vz 0)), some (.int (vz 1)), some (.int (vz 0)), none, none, none]) e90_5 (fun _ => rfl) (by decide) rfl ?_
  exact w_sub (A1 := [some (.ref 238), some (.int (vz i1)), some (.int (vz 0)), some (.int (vz 1)), some (.int (vz 0)), none, none, none]) (And.intro rfl (And.intro rfl (And.intro rfl (And.intro rfl (And.intro rfl trivial))))) (((r90_L (sc := sc) (ai := ai) (al := al) (az := az) (v0 := v0) (i1 := i1) (nv := nv) (G := G) hK hi_1 hv hV hG _)) vh al az 0 1 0 hM (by omega) (by omega) (by omega) (se_0 hG.1.1) (fun _ _ => rfl) (Nat.lt_succ_self _))
