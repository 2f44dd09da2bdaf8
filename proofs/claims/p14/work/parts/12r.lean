set_option maxRecDepth 100000 in
set_option maxHeartbeats 4000000 in
theorem c83_L {sc : Nat → Int} {ai : Nat → Nat → Int} {al : Nat → Nat → Int64} {az : Nat → Nat → Int32} {v0 : vm_H} (hK0 : tmok ai) (hI : gi sc ai al az) {i1 : Int} (hi_1 : 0 ≤ i1 ∧ i1 < 72) : ∀ N : Nat, (∀ (vh : vm_H) (y2 : Int64) (x4 : Int), (tm sc ai al az v0 vh) → (tmok ai) → (0 ≤ x4 ∧ x4 ≤ ai 242 (i1).toNat) → (0 ≤ y2.toInt ∧ y2.toInt ≤ 67108864) → (∀ t : Nat, (t : Int) < x4 → y2.toInt ≤ ((al 243 ((60 * i1).toNat + t)).toInt.natAbs : Int) ∧ 0 < y2.toInt) → ((1000 + 60 - x4 : Int).toNat < N) → vm_Wp 1 29 83 5 [some (.ref 238), some (.int (vz i1)), some (.long y2), none, some (.int (vz x4))] [] vh (vq_P 83 (fun r v1 => (∃ (sc1 : Nat → Int) (ai1 : Nat → Nat → Int) (al1 : Nat → Nat → Int64) (az1 : Nat → Nat → Int32), tm sc1 ai1 al1 az1 v0 v1 ∧ tmok ai1 ∧ gi sc1 ai1 al1 az1 ∧ fr [] [] (i1).toNat (i1).toNat sc ai al az sc1 ai1 al1 az1 ∧ (ai1 = ai)) ∧ r = none))) ∧ (∀ (vh : vm_H) (al_ : Nat → Nat → Int64) (y2 : Int64) (x4 : Int), (tm sc ai al_ az v0 vh) → (tmok ai) → (fr [] [] (i1).toNat (i1).toNat sc ai al az sc ai al_ az) → (0 ≤ x4 ∧ x4 ≤ ai 242 (i1).toNat) → (∀ t : Nat, (t : Int) < ai 242 (i1).toNat → y2.toInt ≠ 0 ∧ y2.toInt.natAbs ≤ (al 243 ((60 * i1).toNat + t)).toInt.natAbs) → (sg al_ (60 * i1).toNat x4) → (∀ t : Nat, x4 ≤ (t : Int) → (t : Int) < 60 → al_ 243 ((60 * i1).toNat + t) = al 243 ((60 * i1).toNat + t)) → ((60 - x4 : Int).toNat < N) → vm_Wp 1 29 83 68 [some (.ref 238), some (.int (vz i1)), some (.long y2), none, some (.int (vz x4))] [] vh (vq_P 83 (fun r v1 => (∃ (sc1 : Nat → Int) (ai1 : Nat → Nat → Int) (al1 : Nat → Nat → Int64) (az1 : Nat → Nat → Int32), tm sc1 ai1 al1 az1 v0 v1 ∧ tmok ai1 ∧ gi sc1 ai1 al1 az1 ∧ fr [] [] (i1).toNat (i1).toNat sc ai al az sc1 ai1 al1 az1 ∧ (ai1 = ai)) ∧ r = none))) := by
  have hF0 : fr [] [] (i1).toNat (i1).toNat sc ai al az sc ai al az := fr_0 _ _ _ _ _ _ _ _
  intro N
  induction N with
  | zero => exact ⟨by intros; omega, by intros; omega⟩
  | succ N ih =>
    refine ⟨?_, ?_⟩
    ·
      intro vh y2 x4 hM hK hx4 hi0 hi1 hN
      have hcg := hK.1 (i1).toNat
      refine w_ldI e83_5 (fun _ => rfl) rfl ?_
      refine w_ldA e83_7 (fun _ => rfl) rfl ?_
      have e1 := tm_o hM
      refine w_get e83_8 e1 rfl ?_
      refine w_ldI e83_11 (fun _ => rfl) rfl ?_
      have e2 := tm_i hM (a := 242) (n := 72) rfl
      refine w_ald e83_12 e2 (by omega) (by omega) (by decide) ?_
      show vm_Wp _ _ _ 13 _ [.int (vz (ai 242 (i1).toNat)), .int (vz x4)] _ _
      have hk3 := hK.1 (i1).toNat
      refine w_ic e83_13 (by omega) (tm_r hM 242 (i1).toNat) (fun (h4 : ai 242 (i1).toNat ≤ x4) => ?_) (fun (h4 : x4 < ai 242 (i1).toNat) => ?_)
      ·
        refine w_ldA e83_39 (fun _ => rfl) rfl ?_
        refine w_get e83_40 e1 rfl ?_
        refine w_ldI e83_43 (fun _ => rfl) rfl ?_
        refine w_ald e83_44 e2 (by omega) (by omega) (by decide) ?_
        show vm_Wp _ _ _ 45 _ [.int (vz (ai 242 (i1).toNat))] _ _
        have hk5 := hK.1 (i1).toNat
        refine w_if e83_45 (tm_r hM 242 (i1).toNat) (fun (h6 : ai 242 (i1).toNat ≤ 0) => ?_) (fun (h6 : 0 < ai 242 (i1).toNat) => ?_)
        ·
          refine w_kI e83_65 ?_
          refine w_stI (j := 4) (A1 := [some (.ref 238), some (.int (vz i1)), some (.long y2), none, some (.int (vz 0))]) e83_66 (fun _ => rfl) (by decide) rfl ?_
          exact w_sub (A1 := [some (.ref 238), some (.int (vz i1)), some (.long y2), none, some (.int (vz 0))]) (And.intro rfl (And.intro rfl (And.intro rfl (And.intro rfl trivial)))) ((ih.2) vh al y2 0 hM hK hF0 (by omega) (fun t ht => by have h9 := hi1 t (by omega); omega) (sg_0 _ _) (fun t _ _ => rfl) (by omega))
        ·
          refine w_ldA e83_48 (fun _ => rfl) rfl ?_
          refine w_get e83_49 e1 rfl ?_
          refine w_kB e83_52 rfl ?_
          refine w_ldI e83_54 (fun _ => rfl) rfl ?_
          refine w_imul e83_55 ?_
          have e7 := tm_l hM (a := 243) (n := 4320) rfl
          refine w_lld e83_56 e7 (by omega) (by omega) (by decide) ?_
          refine w_x e83_57 (fun _ => rfl) ?_
          refine w_lcmp e83_58 (fun q8 (h9 : -1 ≤ q8 ∧ q8 ≤ 1) h10 h11 => ?_)
          have hc12 : (q8 = 0 ↔ ((al 243 (60 * i1).toNat)).toInt = ((Int64.ofNat 0)).toInt) ∧ (q8 < 0 ↔ ((al 243 (60 * i1).toNat)).toInt < ((Int64.ofNat 0)).toInt) := lc_i h10 h11
          have hc13 : (Int64.ofNat 0).toInt = 0 := rfl
          refine w_if e83_59 (by omega) (fun (h14 : 0 ≤ q8) => ?_) (fun (h14 : q8 < 0) => ?_)
          ·
            refine w_kI e83_65 ?_
            refine w_stI (j := 4) (A1 := [some (.ref 238), some (.int (vz i1)), some (.long y2), none, some (.int (vz 0))]) e83_66 (fun _ => rfl) (by decide) rfl ?_
            exact w_sub (A1 := [some (.ref 238), some (.int (vz i1)), some (.long y2), none, some (.int (vz 0))]) (And.intro rfl (And.intro rfl (And.intro rfl (And.intro rfl trivial)))) ((ih.2) vh al y2 0 hM hK hF0 (by omega) (fun t ht => by have h9 := hi1 t (by omega); omega) (sg_0 _ _) (fun t _ _ => rfl) (by omega))
          ·
            refine w_ldL e83_62 (fun _ => rfl) rfl ?_
            refine w_x e83_63 (fun _ => rfl) ?_
            have hc15 := l_neg (x := y2) (by omega)
            refine w_stL (j := 2) (A1 := [some (.ref 238), some (.int (vz i1)), some (.long ((-y2))), none, some (.int (vz x4))]) e83_64 (fun _ => rfl) (by decide) rfl ?_
            refine w_kI e83_65 ?_
            refine w_stI (j := 4) (A1 := [some (.ref 238), some (.int (vz i1)), some (.long ((-y2))), none, some (.int (vz 0))]) e83_66 (fun _ => rfl) (by decide) rfl ?_
            exact w_sub (A1 := [some (.ref 238), some (.int (vz i1)), some (.long ((-y2))), none, some (.int (vz 0))]) (And.intro rfl (And.intro rfl (And.intro rfl (And.intro rfl trivial)))) ((ih.2) vh al ((-y2)) 0 hM hK hF0 (by omega) (fun t ht => by have h9 := hi1 t (by omega); omega) (sg_0 _ _) (fun t _ _ => rfl) (by omega))
      ·
        refine w_ldL e83_16 (fun _ => rfl) rfl ?_
        refine w_ldA e83_17 (fun _ => rfl) rfl ?_
        refine w_get e83_18 e1 rfl ?_
        refine w_kB e83_21 rfl ?_
        refine w_ldI e83_23 (fun _ => rfl) rfl ?_
        refine w_imul e83_24 ?_
        refine w_ldI e83_25 (fun _ => rfl) rfl ?_
        refine w_iadd e83_27 ?_
        have e16 := tm_l hM (a := 243) (n := 4320) rfl
        refine w_lld e83_28 e16 (by omega) (by omega) (by decide) ?_
        have hg17 := gd_at hI.1.2 hi_1 (t := x4) (by omega)
        have ha18 := hg17.1
        have ha19 := hg17.2
        refine w_cs e83_29 (by decide) (Nat.le_of_ble_eq_true rfl) (Nat.le_of_ble_eq_true rfl) (Nat.le_of_ble_eq_true rfl) (by decide) (by decide) (c82 (by omega) (by omega)) (fun o20 v21 hq22 => ?_)
        obtain ⟨rfl, l23, hg24, rfl⟩ := hq22
        have hc25 := hg24.1.1
        have hc26 := hg24.2
        refine w_stL (j := 2) (A1 := [some (.ref 238), some (.int (vz i1)), some (.long l23), none, some (.int (vz x4))]) e83_32 (fun _ => rfl) (by decide) rfl ?_
        refine w_iinc (A1 := [some (.ref 238), some (.int (vz i1)), some (.long l23), none, some (.int (vz (x4 + 1)))]) e83_33 rfl (by decide) rfl ?_
        refine w_x e83_36 (fun _ => rfl) ?_
        exact w_sub (A1 := [some (.ref 238), some (.int (vz i1)), some (.long l23), none, some (.int (vz (x4 + 1)))]) (And.intro rfl (And.intro rfl (And.intro rfl (And.intro rfl trivial)))) ((ih.1) vh l23 (x4 + 1) hM hK (by omega) (by omega) (pm_step (z := al 243 (60 * i1 + x4).toNat) hi1 (by omega) (by omega) (congrArg (al 243) (by omega)) hg17 hg24.1) (by omega))
    ·
      intro vh al_ y2 x4 hM hK hF hx4 hi0 hi1 hi2 hN
      have hcg := hK.1 (i1).toNat
      refine w_ldI e83_68 (fun _ => rfl) rfl ?_
      refine w_ldA e83_70 (fun _ => rfl) rfl ?_
      have e27 := tm_o hM
      refine w_get e83_71 e27 rfl ?_
      refine w_ldI e83_74 (fun _ => rfl) rfl ?_
      have e28 := tm_i hM (a := 242) (n := 72) rfl
      refine w_ald e83_75 e28 (by omega) (by omega) (by decide) ?_
      show vm_Wp _ _ _ 76 _ [.int (vz (ai 242 (i1).toNat)), .int (vz x4)] _ _
      have hk29 := hK.1 (i1).toNat
      refine w_ic e83_76 (by omega) (tm_r hM 242 (i1).toNat) (fun (h30 : ai 242 (i1).toNat ≤ x4) => ?_) (fun (h30 : x4 < ai 242 (i1).toNat) => ?_)
      ·
        have hI31 : gi sc ai al_ az := ⟨⟨hI.1.1, gd_new hI.1.2 (by omega) hF hK (fun t ht => hi1 t (by omega))⟩, hI.2⟩
        exact w_rv e83_111 rfl ⟨⟨sc, ai, al_, az, hM, hK, hI31, hF, rfl⟩, rfl⟩
      ·
        refine w_ldA e83_79 (fun _ => rfl) rfl ?_
        refine w_get e83_80 e27 rfl ?_
        refine w_kB e83_83 rfl ?_
        refine w_ldI e83_85 (fun _ => rfl) rfl ?_
        refine w_imul e83_86 ?_
        refine w_ldI e83_87 (fun _ => rfl) rfl ?_
        refine w_iadd e83_89 ?_
        refine w_ldA e83_90 (fun _ => rfl) rfl ?_
        refine w_get e83_91 e27 rfl ?_
        refine w_kB e83_94 rfl ?_
        refine w_ldI e83_96 (fun _ => rfl) rfl ?_
        refine w_imul e83_97 ?_
        refine w_ldI e83_98 (fun _ => rfl) rfl ?_
        refine w_iadd e83_100 ?_
        have e32 := tm_l hM (a := 243) (n := 4320) rfl
        refine w_lld e83_101 e32 (by omega) (by omega) (by decide) ?_
        refine w_ldL e83_102 (fun _ => rfl) rfl ?_
        have hq33 := hi0 (x4).toNat (by omega)
        refine w_div e83_103 (fun hz => hq33.1 (l_z.mp hz)) ?_
        refine w_lst e83_104 e32 (by omega) (by omega) (by decide) (fun v36 b34 h35 => ?_)
        obtain ⟨al37, hd39, hM38⟩ : ∃ z, z = u2 al_ 243 ((60 * i1) + x4).toNat (((al_ 243 ((60 * i1) + x4).toNat)) / y2) ∧ tm sc ai z az v0 v36 := ⟨_, rfl, tm_pl hM rfl b34 h35⟩
        have hF40 : fr [] [] (i1).toNat (i1).toNat sc ai al az sc ai al37 az := fr_k hF hd39 (by decide) (by omega)
        refine w_iinc (A1 := [some (.ref 238), some (.int (vz i1)), some (.long y2), none, some (.int (vz (x4 + 1)))]) e83_105 rfl (by decide) rfl ?_
        refine w_x e83_108 (fun _ => rfl) ?_
        have hp41 := sg_div hi1 (by omega) (by omega) hi2 (gd_at hI.1.2 hi_1 (by omega)) hq33 hd39
        exact w_sub (A1 := [some (.ref 238), some (.int (vz i1)), some (.long y2), none, some (.int (vz (x4 + 1)))]) (And.intro rfl (And.intro rfl (And.intro rfl (And.intro rfl trivial)))) ((ih.2) v36 al37 y2 (x4 + 1) hM38 hK hF40 (by omega) hi0 hp41.1 hp41.2 (by omega))
set_option maxRecDepth 100000 in
set_option maxHeartbeats 4000000 in
theorem c83 {sc : Nat → Int} {ai : Nat → Nat → Int} {al : Nat → Nat → Int64} {az : Nat → Nat → Int32} {v0 vh : vm_H} (hM : tm sc ai al az v0 vh) (hK : tmok ai) (hI : gi sc ai al az) {i1 : Int} (hi_1 : 0 ≤ i1 ∧ i1 < 72) : vm_Rp 1 29 83 [.ref 238, .int (vz i1)] vh (fun r v1 => (∃ (sc1 : Nat → Int) (ai1 : Nat → Nat → Int) (al1 : Nat → Nat → Int64) (az1 : Nat → Nat → Int32), tm sc1 ai1 al1 az1 v0 v1 ∧ tmok ai1 ∧ gi sc1 ai1 al1 az1 ∧ fr [] [] (i1).toNat (i1).toNat sc ai al az sc1 ai1 al1 az1 ∧ (ai1 = ai)) ∧ r = none) := by
  have hF0 : fr [] [] (i1).toNat (i1).toNat sc ai al az sc ai al az := fr_0 _ _ _ _ _ _ _ _
  have hz0 : (Int64.ofNat 0).toInt = 0 := rfl
  have hcg := hK.1 (i1).toNat
  refine w_in (m := 3) ?_
  show vm_Wp _ _ _ 0 [some (.ref 238), some (.int (vz i1)), none, none, none] [] _ _
  refine w_x e83_0 (fun _ => rfl) ?_
  refine w_stL (j := 2) (A1 := [some (.ref 238), some (.int (vz i1)), some (.long ((Int64.ofNat 0))), none, none]) e83_1 (fun _ => rfl) (by decide) rfl ?_
  refine w_kI e83_2 ?_
  refine w_stI (j := 4) (A1 := [some (.ref 238), some (.int (vz i1)), some (.long ((Int64.ofNat 0))), none, some (.int (vz 0))]) e83_3 (fun _ => rfl) (by decide) rfl ?_
  exact w_sub (A1 := [some (.ref 238), some (.int (vz i1)), some (.long ((Int64.ofNat 0))), none, some (.int (vz 0))]) (And.intro rfl (And.intro rfl (And.intro rfl (And.intro rfl trivial)))) (((c83_L (sc := sc) (ai := ai) (al := al) (az := az) (v0 := v0) (i1 := i1) hK hI hi_1 _).1) vh ((Int64.ofNat 0)) 0 hM hK (by omega) (by omega) (fun t ht => by omega) (Nat.lt_succ_self _))
set_option maxRecDepth 100000 in
set_option maxHeartbeats 4000000 in
theorem c88_L {sc : Nat → Int} {ai : Nat → Nat → Int} {al : Nat → Nat → Int64} {az : Nat → Nat → Int32} {v0 : vm_H} (hK0 : tmok ai) (hI : gj sc ai al az) {l_1 : Int64} {l_2 : Int64} (hB : tb sc ai az) (hl : sc 38 < 8000) : ∀ N : Nat, (∀ (vh : vm_H) (y5 : Int64) (x7 : Int), (tm sc ai al az v0 vh) → (tmok ai) → (0 ≤ x7 ∧ x7 < 16384) → ((((ffz (az 259) 16384 : Int) - x7) % 16384 : Int).toNat < N) → vm_Wp 0 0 88 15 [some (.ref 238), some (.long l_1), none, some (.long l_2), none, some (.long y5), none, some (.int (vz x7))] [] vh (vq_P 88 (fun r v1 => (∃ (sc1 : Nat → Int) (ai1 : Nat → Nat → Int) (al1 : Nat → Nat → Int64) (az1 : Nat → Nat → Int32), tm sc1 ai1 al1 az1 v0 v1 ∧ tmok ai1 ∧ gj sc1 ai1 al1 az1 ∧ fr [38] [257, 258, 259, 260] 1 0 sc ai al az sc1 ai1 al1 az1 ∧ (tb sc1 ai1 az1 ∧ (0 ≤ sc1 38 ∧ sc1 38 ≤ sc 38 + 1))) ∧ r = none))) := by
  have hF0 : fr [38] [257, 258, 259, 260] 1 0 sc ai al az sc ai al az := fr_0 _ _ _ _ _ _ _ _
  intro N
  induction N with
  | zero => exact (by intros; omega)
  | succ N ih =>
    ·
      intro vh y5 x7 hM hK hx7 hN
      have hff := tb_free hB
      have hf1 := hff.1
      have hB1 := hB.1
      refine w_ldA e88_15 (fun _ => rfl) rfl ?_
      have e6 := tm_o hM
      refine w_get e88_16 e6 rfl ?_
      refine w_ldI e88_19 (fun _ => rfl) rfl ?_
      have e7 := tm_z hM (a := 259) (n := 16384) rfl
      refine w_zldO e88_21 e7 (by omega) (by omega) (by decide) (fun q8 h9 h10 => ?_)
      refine w_if e88_22 h9 (fun (h11 : q8 = 0) => ?_) (fun (h11 : q8 ≠ 0) => ?_)
      ·
        refine w_ldA e88_50 (fun _ => rfl) rfl ?_
        refine w_get e88_51 e6 rfl ?_
        refine w_ldI e88_54 (fun _ => rfl) rfl ?_
        refine w_zldO e88_56 e7 (by omega) (by omega) (by decide) (fun q12 h13 h14 => ?_)
        refine w_if e88_57 h13 (fun (h15 : q12 ≠ 0) => ?_) (fun (h15 : q12 = 0) => ?_)
        ·
          refine w_ldA e88_105 (fun _ => rfl) rfl ?_
          refine w_get e88_106 e6 rfl ?_
          refine w_ldI e88_109 (fun _ => rfl) rfl ?_
          refine w_x e88_111 (fun _ => rfl) ?_
          have e16 := tm_l hM (a := 258) (n := 16384) rfl
          refine w_lldO e88_112 e16 (by omega) (by omega) (by decide) (fun l17 => ?_)
          refine w_ldL e88_113 (fun _ => rfl) rfl ?_
          refine w_oL e88_114 (fun _ => rfl) (fun l18 => ?_)
          refine w_lst e88_115 e16 (by omega) (by omega) (by decide) (fun v21 b19 h20 => ?_)
          obtain ⟨al22, hd24, hM23⟩ : ∃ z, z = u2 al 258 (x7).toNat l18 ∧ tm sc ai z az v0 v21 := ⟨_, rfl, tm_pl hM rfl b19 h20⟩
          have hF25 : fr [38] [257, 258, 259, 260] 1 0 sc ai al az sc ai al22 az := fr_l hF0 hd24 rfl (by decide)
          have hI26 : gj sc ai al22 az := gj_l hI hd24 (by decide)
          exact w_rv e88_116 rfl ⟨⟨sc, ai, al22, az, hM23, hK, hI26, hF25, ⟨hB, by omega⟩⟩, rfl⟩
        ·
          refine w_ldA e88_60 (fun _ => rfl) rfl ?_
          refine w_get e88_61 e6 rfl ?_
          refine w_ldI e88_64 (fun _ => rfl) rfl ?_
          refine w_kI e88_66 ?_
          refine w_zst e88_67 e7 (by omega) (by omega) (by decide) (fun v29 b27 h28 => ?_)
          obtain ⟨az30, hd32, hM31⟩ : ∃ z, z = u2 az 259 (x7).toNat (vz 1 &&& 1) ∧ tm sc ai al z v0 v29 := ⟨_, rfl, tm_pz hM rfl b27 h28⟩
          have hF33 : fr [38] [257, 258, 259, 260] 1 0 sc ai al az sc ai al az30 := fr_z hF0 hd32 rfl
          have hI34 : gj sc ai al az30 := gj_z hI hd32
          refine w_ldA e88_68 (fun _ => rfl) rfl ?_
          have e35 := tm_o hM31
          refine w_get e88_69 e35 rfl ?_
          refine w_ldI e88_72 (fun _ => rfl) rfl ?_
          refine w_ldL e88_74 (fun _ => rfl) rfl ?_
          have e36 := tm_l hM31 (a := 257) (n := 16384) rfl
          refine w_lst e88_75 e36 (by omega) (by omega) (by decide) (fun v39 b37 h38 => ?_)
          obtain ⟨al40, hd42, hM41⟩ : ∃ z, z = u2 al 257 (x7).toNat l_2 ∧ tm sc ai z az30 v0 v39 := ⟨_, rfl, tm_pl hM31 rfl b37 h38⟩
          have hF43 : fr [38] [257, 258, 259, 260] 1 0 sc ai al az sc ai al40 az30 := fr_l hF33 hd42 rfl (by decide)
          have hI44 : gj sc ai al40 az30 := gj_l hI34 hd42 (by decide)
          refine w_ldA e88_76 (fun _ => rfl) rfl ?_
          have e45 := tm_o hM41
          refine w_get e88_77 e45 rfl ?_
          refine w_ldI e88_80 (fun _ => rfl) rfl ?_
          refine w_oL e88_82 (fun _ => rfl) (fun l46 => ?_)
          have e47 := tm_l hM41 (a := 258) (n := 16384) rfl
          refine w_lst e88_83 e47 (by omega) (by omega) (by decide) (fun v50 b48 h49 => ?_)
          obtain ⟨al51, hd53, hM52⟩ : ∃ z, z = u2 al40 258 (x7).toNat l46 ∧ tm sc ai z az30 v0 v50 := ⟨_, rfl, tm_pl hM41 rfl b48 h49⟩
          have hF54 : fr [38] [257, 258, 259, 260] 1 0 sc ai al az sc ai al51 az30 := fr_l hF43 hd53 rfl (by decide)
          have hI55 : gj sc ai al51 az30 := gj_l hI44 hd53 (by decide)
          refine w_ldA e88_84 (fun _ => rfl) rfl ?_
          have e56 := tm_o hM52
          refine w_get e88_85 e56 rfl ?_
          refine w_ldA e88_88 (fun _ => rfl) rfl ?_
          refine w_get e88_89 e56 rfl ?_
          refine w_ldI e88_92 (fun _ => rfl) rfl ?_
          have e57 := tm_i hM52 (a := 260) (n := 8000) rfl
          refine w_ast e88_94 e57 (by omega) (by omega) (by decide) (by decide) (fun v60 b58 h59 => ?_)
          obtain ⟨ai61, hd63, hM62⟩ : ∃ z, z = u2 ai 260 (sc 38).toNat x7 ∧ tm sc z al51 az30 v0 v60 := ⟨_, rfl, tm_pi hM52 rfl (by omega) b58 h59⟩
          have hK64 : tmok ai61 := by rw [hd63]; exact tmok_u hK (by decide) (by decide)
          have hF65 : fr [38] [257, 258, 259, 260] 1 0 sc ai al az sc ai61 al51 az30 := fr_i hF54 hd63 rfl (by decide)
          have hI66 : gj sc ai61 al51 az30 := gj_i hI55 hd63 (by decide)
          refine w_ldA e88_95 (fun _ => rfl) rfl ?_
          refine w_x e88_96 (fun _ => rfl) ?_
          have e67 := tm_o hM62
          refine w_get e88_97 e67 rfl ?_
          refine w_kI e88_100 ?_
          refine w_iadd e88_101 ?_
          refine w_put e88_102 e67 (Nat.le_of_ble_eq_true rfl) rfl (fun v70 b68 h69 => ?_)
          obtain ⟨sc71, hd73, hM72⟩ : ∃ z, z = u1 sc 38 ((sc 38) + 1) ∧ tm z ai61 al51 az30 v0 v70 := ⟨_, rfl, tm_ps 38 hM62 (by omega) b68 h69⟩
          have hs74 : sc71 38 = (sc 38) + 1 := by rw [hd73]; exact u1_s
          have hF75 : fr [38] [257, 258, 259, 260] 1 0 sc ai al az sc71 ai61 al51 az30 := fr_s hF65 hd73 rfl
          have hI76 : gj sc71 ai61 al51 az30 := gj_s hI66 hd73 (by decide) (by decide)
          refine w_ldA e88_105 (fun _ => rfl) rfl ?_
          have e77 := tm_o hM72
          refine w_get e88_106 e77 rfl ?_
          refine w_ldI e88_109 (fun _ => rfl) rfl ?_
          refine w_x e88_111 (fun _ => rfl) ?_
          have e78 := tm_l hM72 (a := 258) (n := 16384) rfl
          refine w_lldO e88_112 e78 (by omega) (by omega) (by decide) (fun l79 => ?_)
          refine w_ldL e88_113 (fun _ => rfl) rfl ?_
          refine w_oL e88_114 (fun _ => rfl) (fun l80 => ?_)
          refine w_lst e88_115 e78 (by omega) (by omega) (by decide) (fun v83 b81 h82 => ?_)
          obtain ⟨al84, hd86, hM85⟩ : ∃ z, z = u2 al51 258 (x7).toNat l80 ∧ tm sc71 ai61 z az30 v0 v83 := ⟨_, rfl, tm_pl hM72 rfl b81 h82⟩
          have hF87 : fr [38] [257, 258, 259, 260] 1 0 sc ai al az sc71 ai61 al84 az30 := fr_l hF75 hd86 rfl (by decide)
          have hI88 : gj sc71 ai61 al84 az30 := gj_l hI76 hd86 (by decide)
          exact w_rv e88_116 rfl ⟨⟨sc71, ai61, al84, az30, hM85, hK64, hI88, hF87, ⟨tb_add hB hl (by omega) hd32 hd63 hd73, by omega⟩⟩, rfl⟩
      ·
        have hne89 := tb_ne hff.2 h10 h9 h11 (by omega)
        refine w_ldA e88_25 (fun _ => rfl) rfl ?_
        refine w_get e88_26 e6 rfl ?_
        refine w_ldI e88_29 (fun _ => rfl) rfl ?_
        have e90 := tm_l hM (a := 257) (n := 16384) rfl
        refine w_lldO e88_31 e90 (by omega) (by omega) (by decide) (fun l91 => ?_)
        refine w_ldL e88_32 (fun _ => rfl) rfl ?_
        refine w_lcmp e88_33 (fun q92 (h93 : -1 ≤ q92 ∧ q92 ≤ 1) h94 h95 => ?_)
        refine w_if e88_34 (by omega) (fun (h96 : q92 = 0) => ?_) (fun (h96 : q92 ≠ 0) => ?_)
        ·
          refine w_ldA e88_50 (fun _ => rfl) rfl ?_
          refine w_get e88_51 e6 rfl ?_
          refine w_ldI e88_54 (fun _ => rfl) rfl ?_
          refine w_zldO e88_56 e7 (by omega) (by omega) (by decide) (fun q97 h98 h99 => ?_)
          refine w_if e88_57 h98 (fun (h100 : q97 ≠ 0) => ?_) (fun (h100 : q97 = 0) => ?_)
          ·
            refine w_ldA e88_105 (fun _ => rfl) rfl ?_
            refine w_get e88_106 e6 rfl ?_
            refine w_ldI e88_109 (fun _ => rfl) rfl ?_
            refine w_x e88_111 (fun _ => rfl) ?_
            have e101 := tm_l hM (a := 258) (n := 16384) rfl
            refine w_lldO e88_112 e101 (by omega) (by omega) (by decide) (fun l102 => ?_)
            refine w_ldL e88_113 (fun _ => rfl) rfl ?_
            refine w_oL e88_114 (fun _ => rfl) (fun l103 => ?_)
            refine w_lst e88_115 e101 (by omega) (by omega) (by decide) (fun v106 b104 h105 => ?_)
            obtain ⟨al107, hd109, hM108⟩ : ∃ z, z = u2 al 258 (x7).toNat l103 ∧ tm sc ai z az v0 v106 := ⟨_, rfl, tm_pl hM rfl b104 h105⟩
            have hF110 : fr [38] [257, 258, 259, 260] 1 0 sc ai al az sc ai al107 az := fr_l hF0 hd109 rfl (by decide)
            have hI111 : gj sc ai al107 az := gj_l hI hd109 (by decide)
            exact w_rv e88_116 rfl ⟨⟨sc, ai, al107, az, hM108, hK, hI111, hF110, ⟨hB, by omega⟩⟩, rfl⟩
          ·
            refine w_ldA e88_60 (fun _ => rfl) rfl ?_
            refine w_get e88_61 e6 rfl ?_
            refine w_ldI e88_64 (fun _ => rfl) rfl ?_
            refine w_kI e88_66 ?_
            refine w_zst e88_67 e7 (by omega) (by omega) (by decide) (fun v114 b112 h113 => ?_)
            obtain ⟨az115, hd117, hM116⟩ : ∃ z, z = u2 az 259 (x7).toNat (vz 1 &&& 1) ∧ tm sc ai al z v0 v114 := ⟨_, rfl, tm_pz hM rfl b112 h113⟩
            have hF118 : fr [38] [257, 258, 259, 260] 1 0 sc ai al az sc ai al az115 := fr_z hF0 hd117 rfl
            have hI119 : gj sc ai al az115 := gj_z hI hd117
            refine w_ldA e88_68 (fun _ => rfl) rfl ?_
            have e120 := tm_o hM116
            refine w_get e88_69 e120 rfl ?_
            refine w_ldI e88_72 (fun _ => rfl) rfl ?_
            refine w_ldL e88_74 (fun _ => rfl) rfl ?_
            have e121 := tm_l hM116 (a := 257) (n := 16384) rfl
            refine w_lst e88_75 e121 (by omega) (by omega) (by decide) (fun v124 b122 h123 => ?_)
            obtain ⟨al125, hd127, hM126⟩ : ∃ z, z = u2 al 257 (x7).toNat l_2 ∧ tm sc ai z az115 v0 v124 := ⟨_, rfl, tm_pl hM116 rfl b122 h123⟩
            have hF128 : fr [38] [257, 258, 259, 260] 1 0 sc ai al az sc ai al125 az115 := fr_l hF118 hd127 rfl (by decide)
            have hI129 : gj sc ai al125 az115 := gj_l hI119 hd127 (by decide)
            refine w_ldA e88_76 (fun _ => rfl) rfl ?_
            have e130 := tm_o hM126
            refine w_get e88_77 e130 rfl ?_
            refine w_ldI e88_80 (fun _ => rfl) rfl ?_
            refine w_oL e88_82 (fun _ => rfl) (fun l131 => ?_)
            have e132 := tm_l hM126 (a := 258) (n := 16384) rfl
            refine w_lst e88_83 e132 (by omega) (by omega) (by decide) (fun v135 b133 h134 => ?_)
            obtain ⟨al136, hd138, hM137⟩ : ∃ z, z = u2 al125 258 (x7).toNat l131 ∧ tm sc ai z az115 v0 v135 := ⟨_, rfl, tm_pl hM126 rfl b133 h134⟩
            have hF139 : fr [38] [257, 258, 259, 260] 1 0 sc ai al az sc ai al136 az115 := fr_l hF128 hd138 rfl (by decide)
            have hI140 : gj sc ai al136 az115 := gj_l hI129 hd138 (by decide)
            refine w_ldA e88_84 (fun _ => rfl) rfl ?_
            have e141 := tm_o hM137
            refine w_get e88_85 e141 rfl ?_
            refine w_ldA e88_88 (fun _ => rfl) rfl ?_
            refine w_get e88_89 e141 rfl ?_
            refine w_ldI e88_92 (fun _ => rfl) rfl ?_
            have e142 := tm_i hM137 (a := 260) (n := 8000) rfl
            refine w_ast e88_94 e142 (by omega) (by omega) (by decide) (by decide) (fun v145 b143 h144 => ?_)
            obtain ⟨ai146, hd148, hM147⟩ : ∃ z, z = u2 ai 260 (sc 38).toNat x7 ∧ tm sc z al136 az115 v0 v145 := ⟨_, rfl, tm_pi hM137 rfl (by omega) b143 h144⟩
            have hK149 : tmok ai146 := by rw [hd148]; exact tmok_u hK (by decide) (by decide)
            have hF150 : fr [38] [257, 258, 259, 260] 1 0 sc ai al az sc ai146 al136 az115 := fr_i hF139 hd148 rfl (by decide)
            have hI151 : gj sc ai146 al136 az115 := gj_i hI140 hd148 (by decide)
            refine w_ldA e88_95 (fun _ => rfl) rfl ?_
            refine w_x e88_96 (fun _ => rfl) ?_
            have e152 := tm_o hM147
            refine w_get e88_97 e152 rfl ?_
            refine w_kI e88_100 ?_
            refine w_iadd e88_101 ?_
            refine w_put e88_102 e152 (Nat.le_of_ble_eq_true rfl) rfl (fun v155 b153 h154 => ?_)
            obtain ⟨sc156, hd158, hM157⟩ : ∃ z, z = u1 sc 38 ((sc 38) + 1) ∧ tm z ai146 al136 az115 v0 v155 := ⟨_, rfl, tm_ps 38 hM147 (by omega) b153 h154⟩
            have hs159 : sc156 38 = (sc 38) + 1 := by rw [hd158]; exact u1_s
            have hF160 : fr [38] [257, 258, 259, 260] 1 0 sc ai al az sc156 ai146 al136 az115 := fr_s hF150 hd158 rfl
            have hI161 : gj sc156 ai146 al136 az115 := gj_s hI151 hd158 (by decide) (by decide)
            refine w_ldA e88_105 (fun _ => rfl) rfl ?_
            have e162 := tm_o hM157
            refine w_get e88_106 e162 rfl ?_
            refine w_ldI e88_109 (fun _ => rfl) rfl ?_
            refine w_x e88_111 (fun _ => rfl) ?_
            have e163 := tm_l hM157 (a := 258) (n := 16384) rfl
            refine w_lldO e88_112 e163 (by omega) (by omega) (by decide) (fun l164 => ?_)
            refine w_ldL e88_113 (fun _ => rfl) rfl ?_
            refine w_oL e88_114 (fun _ => rfl) (fun l165 => ?_)
            refine w_lst e88_115 e163 (by omega) (by omega) (by decide) (fun v168 b166 h167 => ?_)
            obtain ⟨al169, hd171, hM170⟩ : ∃ z, z = u2 al136 258 (x7).toNat l165 ∧ tm sc156 ai146 z az115 v0 v168 := ⟨_, rfl, tm_pl hM157 rfl b166 h167⟩
            have hF172 : fr [38] [257, 258, 259, 260] 1 0 sc ai al az sc156 ai146 al169 az115 := fr_l hF160 hd171 rfl (by decide)
            have hI173 : gj sc156 ai146 al169 az115 := gj_l hI161 hd171 (by decide)
            exact w_rv e88_116 rfl ⟨⟨sc156, ai146, al169, az115, hM170, hK149, hI173, hF172, ⟨tb_add hB hl (by omega) hd117 hd148 hd158, by omega⟩⟩, rfl⟩
        ·
          refine w_ldI e88_37 (fun _ => rfl) rfl ?_
          refine w_kI e88_39 ?_
          refine w_iadd e88_40 ?_
          refine w_kS e88_41 rfl ?_
          refine w_irem e88_44 (by omega) (by omega) ?_
          refine w_stI (j := 7) (A1 := [some (.ref 238), some (.long l_1), none, some (.long l_2), none, some (.long y5), none, some (.int (vz ((x7 + 1) % 16384)))]) e88_45 (fun _ => rfl) (by decide) rfl ?_
          refine w_x e88_47 (fun _ => rfl) ?_
          exact w_sub (A1 := [some (.ref 238), some (.long l_1), none, some (.long l_2), none, some (.long y5), none, some (.int (vz ((x7 + 1) % 16384)))]) (And.intro rfl (And.intro rfl (And.intro rfl (And.intro rfl (And.intro rfl trivial))))) ((ih) vh y5 ((x7 + 1) % 16384) hM hK (by omega) (by omega))
set_option maxRecDepth 100000 in
set_option maxHeartbeats 4000000 in
theorem c88 {sc : Nat → Int} {ai : Nat → Nat → Int} {al : Nat → Nat → Int64} {az : Nat → Nat → Int32} {v0 vh : vm_H} (hM : tm sc ai al az v0 vh) (hK : tmok ai) (hI : gj sc ai al az) {l_1 : Int64} {l_2 : Int64} (hB : tb sc ai az) (hl : sc 38 < 8000) : vm_Rp 0 0 88 [.ref 238, .long l_1, .long l_2] vh (fun r v1 => (∃ (sc1 : Nat → Int) (ai1 : Nat → Nat → Int) (al1 : Nat → Nat → Int64) (az1 : Nat → Nat → Int32), tm sc1 ai1 al1 az1 v0 v1 ∧ tmok ai1 ∧ gj sc1 ai1 al1 az1 ∧ fr [38] [257, 258, 259, 260] 1 0 sc ai al az sc1 ai1 al1 az1 ∧ (tb sc1 ai1 az1 ∧ (0 ≤ sc1 38 ∧ sc1 38 ≤ sc 38 + 1))) ∧ r = none) := by
  have hF0 : fr [38] [257, 258, 259, 260] 1 0 sc ai al az sc ai al az := fr_0 _ _ _ _ _ _ _ _
  have hB1 := hB.1
  refine w_in (m := 3) ?_
  show vm_Wp _ _ _ 0 [some (.ref 238), some (.long l_1), none, some (.long l_2), none, none, none, none] [] _ _
  refine w_ldL e88_0 (fun _ => rfl) rfl ?_
  refine w_oL e88_1 (fun _ => rfl) (fun l1 => ?_)
  refine w_oL e88_4 (fun _ => rfl) (fun l2 => ?_)
  refine w_stL (j := 5) (A1 := [some (.ref 238), some (.long l_1), none, some (.long l_2), none, some (.long l2), none, none]) e88_5 (fun _ => rfl) (by decide) rfl ?_
  refine w_ldL e88_7 (fun _ => rfl) rfl ?_
  refine w_kB e88_9 rfl ?_
  refine w_x e88_11 (fun _ => rfl) ?_
  refine w_x e88_12 (fun _ => rfl) ?_
  obtain ⟨q3, h4, h5⟩ := sh_50 l2
  show vm_Wp _ _ _ 13 _ [.int ((l2.toUInt64 >>> ((vz 50).toInt64.toUInt64 &&& Int64.toUInt64 63)).toInt64.toInt32)] _ _
  rw [h4]
  refine w_stI (j := 7) (A1 := [some (.ref 238), some (.long l_1), none, some (.long l_2), none, some (.long l2), none, some (.int (vz q3))]) e88_13 (fun _ => rfl) (by decide) rfl ?_
  exact w_sub (A1 := [some (.ref 238), some (.long l_1), none, some (.long l_2), none, some (.long l2), none, some (.int (vz q3))]) (And.intro rfl (And.intro rfl (And.intro rfl (And.intro rfl (And.intro rfl trivial))))) (((c88_L (sc := sc) (ai := ai) (al := al) (az := az) (v0 := v0) (l_1 := l_1) (l_2 := l_2) hK hI hB hl _)) vh l2 q3 hM hK (by omega) (Nat.lt_succ_self _))
set_option maxRecDepth 100000 in
set_option maxHeartbeats 4000000 in
theorem c90_L {sc : Nat → Int} {ai : Nat → Nat → Int} {al : Nat → Nat → Int64} {az : Nat → Nat → Int32} {v0 : vm_H} (hK0 : tmok ai) (hI : gj sc ai al az) {i1 : Int} (hi_1 : 0 ≤ i1 ∧ i1 < 72) (hB : tb sc ai az) : ∀ N : Nat, (∀ (vh : vm_H) (al_ : Nat → Nat → Int64) (az_ : Nat → Nat → Int32) (x2 : Int) (x3 : Int) (x4 : Int), (tm sc ai al_ az_ v0 vh) → (tmok ai) → (fr [38] [259] (i1).toNat (i1).toNat sc ai al az sc ai al_ az_) → (0 ≤ x2 ∧ x2 ≤ 60) → (0 ≤ x3 ∧ x3 ≤ 1) → (0 ≤ x4 ∧ x4 ≤ sc 38) → (tbk sc ai az_ x4) → (sg al_ (60 * i1).toNat x2) → ((8000 - x4 : Int).toNat < N) → vm_Wp 3 77 90 7 [some (.ref 238), some (.int (vz i1)), some (.int (vz x2)), some (.int (vz x3)), some (.int (vz x4)), none, none, none] [] vh (vq_P 90 (fun r v1 => (∃ (sc1 : Nat → Int) (ai1 : Nat → Nat → Int) (al1 : Nat → Nat → Int64) (az1 : Nat → Nat → Int32), tm sc1 ai1 al1 az1 v0 v1 ∧ tmok ai1 ∧ gi sc1 ai1 al1 az1 ∧ fr [38] [259] (i1).toNat (i1).toNat sc ai al az sc1 ai1 al1 az1 ∧ (True)) ∧ ∃ q : Int, ((0 ≤ q ∧ q ≤ 1)) ∧ r = some (.int (vz q))))) := by
  have hF0 : fr [38] [259] (i1).toNat (i1).toNat sc ai al az sc ai al az := fr_0 _ _ _ _ _ _ _ _
  intro N
  induction N with
  | zero => exact (by intros; omega)
  | succ N ih =>
    ·
      intro vh al_ az_ x2 x3 x4 hM hK hF hx2 hx3 hx4 hi0 hi1 hN
      have hB1 := hB.1
      refine w_ldI e90_7 (fun _ => rfl) rfl ?_
      refine w_ldA e90_9 (fun _ => rfl) rfl ?_
      have e1 := tm_o hM
      refine w_get e90_10 e1 rfl ?_
      refine w_ic e90_13 (by omega) (tm_s hM 38) (fun (h2 : sc 38 ≤ x4) => ?_) (fun (h2 : x4 < sc 38) => ?_)
      ·
        refine w_ldA e90_140 (fun _ => rfl) rfl ?_
        refine w_kI e90_141 ?_
        refine w_put e90_142 e1 (Nat.le_of_ble_eq_true rfl) rfl (fun v5 b3 h4 => ?_)
        obtain ⟨sc6, hd8, hM7⟩ : ∃ z, z = u1 sc 38 (0) ∧ tm z ai al_ az_ v0 v5 := ⟨_, rfl, tm_ps 38 hM (by omega) b3 h4⟩
        have hs9 : sc6 38 = 0 := by rw [hd8]; exact u1_s
        have hF10 : fr [38] [259] (i1).toNat (i1).toNat sc ai al az sc6 ai al_ az_ := fr_s hF hd8 rfl
        refine w_ldA e90_145 (fun _ => rfl) rfl ?_
        have e11 := tm_o hM7
        refine w_get e90_146 e11 rfl ?_
        refine w_ldI e90_149 (fun _ => rfl) rfl ?_
        refine w_ldI e90_150 (fun _ => rfl) rfl ?_
        have e12 := tm_i hM7 (a := 242) (n := 72) rfl
        refine w_ast e90_151 e12 (by omega) (by omega) (by decide) (by decide) (fun v15 b13 h14 => ?_)
        obtain ⟨ai16, hd18, hM17⟩ : ∃ z, z = u2 ai 242 (i1).toNat x2 ∧ tm sc6 z al_ az_ v0 v15 := ⟨_, rfl, tm_pi hM7 rfl (by omega) b13 h14⟩
        have hK19 : tmok ai16 := by rw [hd18]; exact tmok_c hK (by omega)
        have hF20 : fr [38] [259] (i1).toNat (i1).toNat sc ai al az sc6 ai16 al_ az_ := fr_c hF10 hd18 (by omega)
        have hI21 : gi sc6 ai16 al_ az_ := ⟨⟨(gj_s hI hd8 (by decide) (by decide)).1, gd_new hI.2 (by omega) hF20 hK19 (fun t ht => hi1 t (by rw [hd18, u2_s] at ht; exact ht))⟩, by omega, tbk_end hi0 (by omega)⟩
        refine w_ldI e90_152 (fun _ => rfl) rfl ?_
        refine w_if e90_153 (by omega) (fun (h22 : x3 = 0) => ?_) (fun (h22 : x3 ≠ 0) => ?_)
        ·
          refine w_ldI e90_161 (fun _ => rfl) rfl ?_
          exact w_rz e90_162 rfl (by omega) ⟨⟨sc6, ai16, al_, az_, hM17, hK19, hI21, hF20, trivial⟩, x3, (by omega), rfl⟩
        ·
          refine w_ldA e90_156 (fun _ => rfl) rfl ?_
          refine w_ldI e90_157 (fun _ => rfl) rfl ?_
          have e23 := tm_o hM17
          refine w_cv e90_158 (by decide) rfl e23 rfl (Nat.le_of_ble_eq_true rfl) (Nat.le_of_ble_eq_true rfl) (Nat.le_of_ble_eq_true rfl) (by decide) (by decide) (k80 hM17 hK19 hI21 (by omega)) (fun o24 v25 hq26 => ?_)
          obtain ⟨⟨sc27, ai28, al29, az30, hM31, hK32, hI33, hG34, hE35⟩, rfl⟩ := hq26
          have hs36 : sc27 38 = sc6 38 := hG34.1 38 rfl
          have hF37 : fr [38] [259] (i1).toNat (i1).toNat sc ai al az sc27 ai28 al29 az30 := fr_t hF20 hG34 rfl rfl (by omega)
          refine w_ldI e90_161 (fun _ => rfl) rfl ?_
          exact w_rz e90_162 rfl (by omega) ⟨⟨sc27, ai28, al29, az30, hM31, hK32, hI33, hF37, trivial⟩, x3, (by omega), rfl⟩
      ·
        refine w_ldA e90_16 (fun _ => rfl) rfl ?_
        refine w_get e90_17 e1 rfl ?_
        refine w_ldI e90_20 (fun _ => rfl) rfl ?_
        have e38 := tm_i hM (a := 260) (n := 8000) rfl
        refine w_ald e90_22 e38 (by omega) (by omega) (by decide) ?_
        show vm_Wp _ _ _ 23 _ [.int (vz (ai 260 (x4).toNat))] _ _
        have hk39 := hB.2.1 (x4).toNat (by omega)
        refine w_stI (j := 5) (A1 := [some (.ref 238), some (.int (vz i1)), some (.int (vz x2)), some (.int (vz x3)), some (.int (vz x4)), some (.int (vz (ai 260 (x4).toNat))), none, none]) e90_23 (fun _ => rfl) (by decide) rfl ?_
        refine w_ldA e90_25 (fun _ => rfl) rfl ?_
        refine w_get e90_26 e1 rfl ?_
        refine w_ldI e90_29 (fun _ => rfl) rfl ?_
        have e40 := tm_l hM (a := 258) (n := 16384) rfl
        refine w_lld e90_31 e40 (by omega) (by omega) (by decide) ?_
        refine w_stL (j := 6) (A1 := [some (.ref 238), some (.int (vz i1)), some (.int (vz x2)), some (.int (vz x3)), some (.int (vz x4)), some (.int (vz (ai 260 (x4).toNat))), some (.long ((al_ 258 (ai 260 (x4).toNat).toNat))), none]) e90_32 (fun _ => rfl) (by decide) rfl ?_
        refine w_ldA e90_34 (fun _ => rfl) rfl ?_
        refine w_get e90_35 e1 rfl ?_
        refine w_ldI e90_38 (fun _ => rfl) rfl ?_
        refine w_kI e90_40 ?_
        have e41 := tm_z hM (a := 259) (n := 16384) rfl
        refine w_zst e90_41 e41 (by omega) (by omega) (by decide) (fun v44 b42 h43 => ?_)
        obtain ⟨az45, hd47, hM46⟩ : ∃ z, z = u2 az_ 259 (ai 260 (x4).toNat).toNat (vz 0 &&& 1) ∧ tm sc ai al_ z v0 v44 := ⟨_, rfl, tm_pz hM rfl b42 h43⟩
        have hF48 : fr [38] [259] (i1).toNat (i1).toNat sc ai al az sc ai al_ az45 := fr_z hF hd47 rfl
        refine w_ldL e90_42 (fun _ => rfl) rfl ?_
        refine w_x e90_44 (fun _ => rfl) ?_
        refine w_lcmp e90_45 (fun q49 (h50 : -1 ≤ q49 ∧ q49 ≤ 1) h51 h52 => ?_)
        have hc53 : (q49 = 0 ↔ ((al_ 258 (ai 260 (x4).toNat).toNat)).toInt = ((Int64.ofNat 0)).toInt) ∧ (q49 < 0 ↔ ((al_ 258 (ai 260 (x4).toNat).toNat)).toInt < ((Int64.ofNat 0)).toInt) := lc_i h51 h52
        have hc54 : (Int64.ofNat 0).toInt = 0 := rfl
        refine w_if e90_46 (by omega) (fun (h55 : q49 = 0) => ?_) (fun (h55 : q49 ≠ 0) => ?_)
        ·
          refine w_iinc (A1 := [some (.ref 238), some (.int (vz i1)), some (.int (vz x2)), some (.int (vz x3)), some (.int (vz (x4 + 1))), some (.int (vz (ai 260 (x4).toNat))), some (.long ((al_ 258 (ai 260 (x4).toNat).toNat))), none]) e90_134 rfl (by decide) rfl ?_
          refine w_x e90_137 (fun _ => rfl) ?_
          exact w_sub (A1 := [some (.ref 238), some (.int (vz i1)), some (.int (vz x2)), some (.int (vz x3)), some (.int (vz (x4 + 1))), none, none, none]) (And.intro rfl (And.intro rfl (And.intro rfl (And.intro rfl (And.intro rfl trivial))))) ((ih) v44 al_ az45 x2 x3 (x4 + 1) hM46 hK hF48 (by omega) (by omega) (by omega) (tbk_step hi0 (by omega) (by decide) hd47) hi1 (by omega))
        ·
          refine w_ldI e90_49 (fun _ => rfl) rfl ?_
          refine w_if e90_50 (by omega) (fun (h56 : x3 = 0) => ?_) (fun (h56 : x3 ≠ 0) => ?_)
          ·
            refine w_iinc (A1 := [some (.ref 238), some (.int (vz i1)), some (.int (vz x2)), some (.int (vz x3)), some (.int (vz (x4 + 1))), some (.int (vz (ai 260 (x4).toNat))), some (.long ((al_ 258 (ai 260 (x4).toNat).toNat))), none]) e90_134 rfl (by decide) rfl ?_
            refine w_x e90_137 (fun _ => rfl) ?_
            exact w_sub (A1 := [some (.ref 238), some (.int (vz i1)), some (.int (vz x2)), some (.int (vz x3)), some (.int (vz (x4 + 1))), none, none, none]) (And.intro rfl (And.intro rfl (And.intro rfl (And.intro rfl (And.intro rfl trivial))))) ((ih) v44 al_ az45 x2 x3 (x4 + 1) hM46 hK hF48 (by omega) (by omega) (by omega) (tbk_step hi0 (by omega) (by decide) hd47) hi1 (by omega))
          ·
            refine w_ldI e90_53 (fun _ => rfl) rfl ?_
            refine w_kB e90_54 rfl ?_
            refine w_ic e90_56 (by omega) (by omega) (fun (h57 : 60 ≤ x2) => ?_) (fun (h57 : x2 < 60) => ?_)
            ·
              refine w_kI e90_94 ?_
              refine w_stI (j := 3) (A1 := [some (.ref 238), some (.int (vz i1)), some (.int (vz x2)), some (.int (vz 0)), some (.int (vz x4)), some (.int (vz (ai 260 (x4).toNat))), some (.long ((al_ 258 (ai 260 (x4).toNat).toNat))), none]) e90_95 (fun _ => rfl) (by decide) rfl ?_
              refine w_ldI e90_96 (fun _ => rfl) rfl ?_
              refine w_if e90_97 (by omega) (fun (h58 : 0 = 0) => ?_) (fun (h58 : 0 ≠ 0) => ?_)
              ·
                refine w_iinc (A1 := [some (.ref 238), some (.int (vz i1)), some (.int (vz x2)), some (.int (vz 0)), some (.int (vz (x4 + 1))), some (.int (vz (ai 260 (x4).toNat))), some (.long ((al_ 258 (ai 260 (x4).toNat).toNat))), none]) e90_134 rfl (by decide) rfl ?_
                refine w_x e90_137 (fun _ => rfl) ?_
                exact w_sub (A1 := [some (.ref 238), some (.int (vz i1)), some (.int (vz x2)), some (.int (vz 0)), some (.int (vz (x4 + 1))), none, none, none]) (And.intro rfl (And.intro rfl (And.intro rfl (And.intro rfl (And.intro rfl trivial))))) ((ih) v44 al_ az45 x2 0 (x4 + 1) hM46 hK hF48 (by omega) (by omega) (by omega) (tbk_step hi0 (by omega) (by decide) hd47) hi1 (by omega))
              ·
                refine w_ldA e90_100 (fun _ => rfl) rfl ?_
                have e59 := tm_o hM46
                refine w_get e90_101 e59 rfl ?_
                refine w_kB e90_104 rfl ?_
                refine w_ldI e90_106 (fun _ => rfl) rfl ?_
                refine w_imul e90_107 ?_
                refine w_ldI e90_108 (fun _ => rfl) rfl ?_
                refine w_iadd e90_109 ?_
                refine w_ldL e90_110 (fun _ => rfl) rfl ?_
                have e60 := tm_l hM46 (a := 243) (n := 4320) rfl
                refine w_lst e90_112 e60 (by omega) (by omega) (by decide) (fun v63 b61 h62 => ?_)
                obtain ⟨al64, hd66, hM65⟩ : ∃ z, z = u2 al_ 243 ((60 * i1) + x2).toNat ((al_ 258 (ai 260 (x4).toNat).toNat)) ∧ tm sc ai z az45 v0 v63 := ⟨_, rfl, tm_pl hM46 rfl b61 h62⟩
                have hF67 : fr [38] [259] (i1).toNat (i1).toNat sc ai al az sc ai al64 az45 := fr_k hF48 hd66 (by decide) (by omega)
                refine w_ldA e90_113 (fun _ => rfl) rfl ?_
                have e68 := tm_o hM65
                refine w_get e90_114 e68 rfl ?_
                refine w_kB e90_117 rfl ?_
                refine w_ldI e90_119 (fun _ => rfl) rfl ?_
                refine w_imul e90_120 ?_
                refine w_ldI e90_121 (fun _ => rfl) rfl ?_
                refine w_iadd e90_122 ?_
                refine w_ldA e90_123 (fun _ => rfl) rfl ?_
                refine w_get e90_124 e68 rfl ?_
                refine w_ldI e90_127 (fun _ => rfl) rfl ?_
                have e69 := tm_l hM65 (a := 257) (n := 16384) rfl
                refine w_lld e90_129 e69 (by omega) (by omega) (by decide) ?_
                have e70 := tm_l hM65 (a := 244) (n := 4320) rfl
                refine w_lst e90_130 e70 (by omega) (by omega) (by decide) (fun v73 b71 h72 => ?_)
                obtain ⟨al74, hd76, hM75⟩ : ∃ z, z = u2 al64 244 ((60 * i1) + x2).toNat ((al64 257 (ai 260 (x4).toNat).toNat)) ∧ tm sc ai z az45 v0 v73 := ⟨_, rfl, tm_pl hM65 rfl b71 h72⟩
                have hF77 : fr [38] [259] (i1).toNat (i1).toNat sc ai al az sc ai al74 az45 := fr_k hF67 hd76 (by decide) (by omega)
                refine w_iinc (A1 := [some (.ref 238), some (.int (vz i1)), some (.int (vz (x2 + 1))), some (.int (vz 0)), some (.int (vz x4)), some (.int (vz (ai 260 (x4).toNat))), some (.long ((al_ 258 (ai 260 (x4).toNat).toNat))), none]) e90_131 rfl (by decide) rfl ?_
                refine w_iinc (A1 := [some (.ref 238), some (.int (vz i1)), some (.int (vz (x2 + 1))), some (.int (vz 0)), some (.int (vz (x4 + 1))), some (.int (vz (ai 260 (x4).toNat))), some (.long ((al_ 258 (ai 260 (x4).toNat).toNat))), none]) e90_134 rfl (by decide) rfl ?_
                refine w_x e90_137 (fun _ => rfl) ?_
                exact w_sub (A1 := [some (.ref 238), some (.int (vz i1)), some (.int (vz (x2 + 1))), some (.int (vz 0)), some (.int (vz (x4 + 1))), none, none, none]) (And.intro rfl (And.intro rfl (And.intro rfl (And.intro rfl (And.intro rfl trivial))))) ((ih) v73 al74 az45 (x2 + 1) 0 (x4 + 1) hM75 hK hF77 (by omega) (by omega) (by omega) (tbk_step hi0 (by omega) (by decide) hd47) (sg_add hi1 (by omega) (by omega) ⟨by omega, by omega, by omega⟩ hd66 hd76) (by omega))
            ·
              refine w_ldL e90_59 (fun _ => rfl) rfl ?_
              refine w_x e90_61 (fun _ => rfl) ?_
              refine w_lcmp e90_64 (fun q78 (h79 : -1 ≤ q78 ∧ q78 ≤ 1) h80 h81 => ?_)
              have hc82 : (q78 = 0 ↔ ((al_ 258 (ai 260 (x4).toNat).toNat)).toInt = ((Int64.ofNat 18446744073642442752)).toInt) ∧ (q78 < 0 ↔ ((al_ 258 (ai 260 (x4).toNat).toNat)).toInt < ((Int64.ofNat 18446744073642442752)).toInt) := lc_i h80 h81
              have hc83 : (Int64.ofNat 18446744073642442752).toInt = -67108864 := rfl
              refine w_if e90_65 (by omega) (fun (h84 : q78 < 0) => ?_) (fun (h84 : 0 ≤ q78) => ?_)
              ·
                refine w_kI e90_94 ?_
                refine w_stI (j := 3) (A1 := [some (.ref 238), some (.int (vz i1)), some (.int (vz x2)), some (.int (vz 0)), some (.int (vz x4)), some (.int (vz (ai 260 (x4).toNat))), some (.long ((al_ 258 (ai 260 (x4).toNat).toNat))), none]) e90_95 (fun _ => rfl) (by decide) rfl ?_
                refine w_ldI e90_96 (fun _ => rfl) rfl ?_
                refine w_if e90_97 (by omega) (fun (h85 : 0 = 0) => ?_) (fun (h85 : 0 ≠ 0) => ?_)
                ·
                  refine w_iinc (A1 := [some (.ref 238), some (.int (vz i1)), some (.int (vz x2)), some (.int (vz 0)), some (.int (vz (x4 + 1))), some (.int (vz (ai 260 (x4).toNat))), some (.long ((al_ 258 (ai 260 (x4).toNat).toNat))), none]) e90_134 rfl (by decide) rfl ?_
                  refine w_x e90_137 (fun _ => rfl) ?_
                  exact w_sub (A1 := [some (.ref 238), some (.int (vz i1)), some (.int (vz x2)), some (.int (vz 0)), some (.int (vz (x4 + 1))), none, none, none]) (And.intro rfl (And.intro rfl (And.intro rfl (And.intro rfl (And.intro rfl trivial))))) ((ih) v44 al_ az45 x2 0 (x4 + 1) hM46 hK hF48 (by omega) (by omega) (by omega) (tbk_step hi0 (by omega) (by decide) hd47) hi1 (by omega))
                ·
                  refine w_ldA e90_100 (fun _ => rfl) rfl ?_
                  have e86 := tm_o hM46
                  refine w_get e90_101 e86 rfl ?_
                  refine w_kB e90_104 rfl ?_
                  refine w_ldI e90_106 (fun _ => rfl) rfl ?_
                  refine w_imul e90_107 ?_
                  refine w_ldI e90_108 (fun _ => rfl) rfl ?_
                  refine w_iadd e90_109 ?_
                  refine w_ldL e90_110 (fun _ => rfl) rfl ?_
                  have e87 := tm_l hM46 (a := 243) (n := 4320) rfl
                  refine w_lst e90_112 e87 (by omega) (by omega) (by decide) (fun v90 b88 h89 => ?_)
                  obtain ⟨al91, hd93, hM92⟩ : ∃ z, z = u2 al_ 243 ((60 * i1) + x2).toNat ((al_ 258 (ai 260 (x4).toNat).toNat)) ∧ tm sc ai z az45 v0 v90 := ⟨_, rfl, tm_pl hM46 rfl b88 h89⟩
                  have hF94 : fr [38] [259] (i1).toNat (i1).toNat sc ai al az sc ai al91 az45 := fr_k hF48 hd93 (by decide) (by omega)
                  refine w_ldA e90_113 (fun _ => rfl) rfl ?_
                  have e95 := tm_o hM92
                  refine w_get e90_114 e95 rfl ?_
                  refine w_kB e90_117 rfl ?_
                  refine w_ldI e90_119 (fun _ => rfl) rfl ?_
                  refine w_imul e90_120 ?_
                  refine w_ldI e90_121 (fun _ => rfl) rfl ?_
                  refine w_iadd e90_122 ?_
                  refine w_ldA e90_123 (fun _ => rfl) rfl ?_
                  refine w_get e90_124 e95 rfl ?_
                  refine w_ldI e90_127 (fun _ => rfl) rfl ?_
                  have e96 := tm_l hM92 (a := 257) (n := 16384) rfl
                  refine w_lld e90_129 e96 (by omega) (by omega) (by decide) ?_
                  have e97 := tm_l hM92 (a := 244) (n := 4320) rfl
                  refine w_lst e90_130 e97 (by omega) (by omega) (by decide) (fun v100 b98 h99 => ?_)
                  obtain ⟨al101, hd103, hM102⟩ : ∃ z, z = u2 al91 244 ((60 * i1) + x2).toNat ((al91 257 (ai 260 (x4).toNat).toNat)) ∧ tm sc ai z az45 v0 v100 := ⟨_, rfl, tm_pl hM92 rfl b98 h99⟩
                  have hF104 : fr [38] [259] (i1).toNat (i1).toNat sc ai al az sc ai al101 az45 := fr_k hF94 hd103 (by decide) (by omega)
                  refine w_iinc (A1 := [some (.ref 238), some (.int (vz i1)), some (.int (vz (x2 + 1))), some (.int (vz 0)), some (.int (vz x4)), some (.int (vz (ai 260 (x4).toNat))), some (.long ((al_ 258 (ai 260 (x4).toNat).toNat))), none]) e90_131 rfl (by decide) rfl ?_
                  refine w_iinc (A1 := [some (.ref 238), some (.int (vz i1)), some (.int (vz (x2 + 1))), some (.int (vz 0)), some (.int (vz (x4 + 1))), some (.int (vz (ai 260 (x4).toNat))), some (.long ((al_ 258 (ai 260 (x4).toNat).toNat))), none]) e90_134 rfl (by decide) rfl ?_
                  refine w_x e90_137 (fun _ => rfl) ?_
                  exact w_sub (A1 := [some (.ref 238), some (.int (vz i1)), some (.int (vz (x2 + 1))), some (.int (vz 0)), some (.int (vz (x4 + 1))), none, none, none]) (And.intro rfl (And.intro rfl (And.intro rfl (And.intro rfl (And.intro rfl trivial))))) ((ih) v100 al101 az45 (x2 + 1) 0 (x4 + 1) hM102 hK hF104 (by omega) (by omega) (by omega) (tbk_step hi0 (by omega) (by decide) hd47) (sg_add hi1 (by omega) (by omega) ⟨by omega, by omega, by omega⟩ hd93 hd103) (by omega))
              ·
                refine w_ldL e90_68 (fun _ => rfl) rfl ?_
                refine w_x e90_70 (fun _ => rfl) ?_
                refine w_lcmp e90_73 (fun q105 (h106 : -1 ≤ q105 ∧ q105 ≤ 1) h107 h108 => ?_)
                have hc109 : (q105 = 0 ↔ ((al_ 258 (ai 260 (x4).toNat).toNat)).toInt = ((Int64.ofNat 67108864)).toInt) ∧ (q105 < 0 ↔ ((al_ 258 (ai 260 (x4).toNat).toNat)).toInt < ((Int64.ofNat 67108864)).toInt) := lc_i h107 h108
                have hc110 : (Int64.ofNat 67108864).toInt = 67108864 := rfl
                refine w_if e90_74 (by omega) (fun (h111 : 0 < q105) => ?_) (fun (h111 : q105 ≤ 0) => ?_)
                ·
                  refine w_kI e90_94 ?_
                  refine w_stI (j := 3) (A1 := [some (.ref 238), some (.int (vz i1)), some (.int (vz x2)), some (.int (vz 0)), some (.int (vz x4)), some (.int (vz (ai 260 (x4).toNat))), some (.long ((al_ 258 (ai 260 (x4).toNat).toNat))), none]) e90_95 (fun _ => rfl) (by decide) rfl ?_
                  refine w_ldI e90_96 (fun _ => rfl) rfl ?_
                  refine w_if e90_97 (by omega) (fun (h112 : 0 = 0) => ?_) (fun (h112 : 0 ≠ 0) => ?_)
                  ·
                    refine w_iinc (A1 := [some (.ref 238), some (.int (vz i1)), some (.int (vz x2)), some (.int (vz 0)), some (.int (vz (x4 + 1))), some (.int (vz (ai 260 (x4).toNat))), some (.long ((al_ 258 (ai 260 (x4).toNat).toNat))), none]) e90_134 rfl (by decide) rfl ?_
                    refine w_x e90_137 (fun _ => rfl) ?_
                    exact w_sub (A1 := [some (.ref 238), some (.int (vz i1)), some (.int (vz x2)), some (.int (vz 0)), some (.int (vz (x4 + 1))), none, none, none]) (And.intro rfl (And.intro rfl (And.intro rfl (And.intro rfl (And.intro rfl trivial))))) ((ih) v44 al_ az45 x2 0 (x4 + 1) hM46 hK hF48 (by omega) (by omega) (by omega) (tbk_step hi0 (by omega) (by decide) hd47) hi1 (by omega))
                  ·
                    refine w_ldA e90_100 (fun _ => rfl) rfl ?_
                    have e113 := tm_o hM46
                    refine w_get e90_101 e113 rfl ?_
                    refine w_kB e90_104 rfl ?_
                    refine w_ldI e90_106 (fun _ => rfl) rfl ?_
                    refine w_imul e90_107 ?_
                    refine w_ldI e90_108 (fun _ => rfl) rfl ?_
                    refine w_iadd e90_109 ?_
                    refine w_ldL e90_110 (fun _ => rfl) rfl ?_
                    have e114 := tm_l hM46 (a := 243) (n := 4320) rfl
                    refine w_lst e90_112 e114 (by omega) (by omega) (by decide) (fun v117 b115 h116 => ?_)
                    obtain ⟨al118, hd120, hM119⟩ : ∃ z, z = u2 al_ 243 ((60 * i1) + x2).toNat ((al_ 258 (ai 260 (x4).toNat).toNat)) ∧ tm sc ai z az45 v0 v117 := ⟨_, rfl, tm_pl hM46 rfl b115 h116⟩
                    have hF121 : fr [38] [259] (i1).toNat (i1).toNat sc ai al az sc ai al118 az45 := fr_k hF48 hd120 (by decide) (by omega)
                    refine w_ldA e90_113 (fun _ => rfl) rfl ?_
                    have e122 := tm_o hM119
                    refine w_get e90_114 e122 rfl ?_
                    refine w_kB e90_117 rfl ?_
                    refine w_ldI e90_119 (fun _ => rfl) rfl ?_
                    refine w_imul e90_120 ?_
                    refine w_ldI e90_121 (fun _ => rfl) rfl ?_
                    refine w_iadd e90_122 ?_
                    refine w_ldA e90_123 (fun _ => rfl) rfl ?_
                    refine w_get e90_124 e122 rfl ?_
                    refine w_ldI e90_127 (fun _ => rfl) rfl ?_
                    have e123 := tm_l hM119 (a := 257) (n := 16384) rfl
                    refine w_lld e90_129 e123 (by omega) (by omega) (by decide) ?_
                    have e124 := tm_l hM119 (a := 244) (n := 4320) rfl
                    refine w_lst e90_130 e124 (by omega) (by omega) (by decide) (fun v127 b125 h126 => ?_)
                    obtain ⟨al128, hd130, hM129⟩ : ∃ z, z = u2 al118 244 ((60 * i1) + x2).toNat ((al118 257 (ai 260 (x4).toNat).toNat)) ∧ tm sc ai z az45 v0 v127 := ⟨_, rfl, tm_pl hM119 rfl b125 h126⟩
                    have hF131 : fr [38] [259] (i1).toNat (i1).toNat sc ai al az sc ai al128 az45 := fr_k hF121 hd130 (by decide) (by omega)
                    refine w_iinc (A1 := [some (.ref 238), some (.int (vz i1)), some (.int (vz (x2 + 1))), some (.int (vz 0)), some (.int (vz x4)), some (.int (vz (ai 260 (x4).toNat))), some (.long ((al_ 258 (ai 260 (x4).toNat).toNat))), none]) e90_131 rfl (by decide) rfl ?_
                    refine w_iinc (A1 := [some (.ref 238), some (.int (vz i1)), some (.int (vz (x2 + 1))), some (.int (vz 0)), some (.int (vz (x4 + 1))), some (.int (vz (ai 260 (x4).toNat))), some (.long ((al_ 258 (ai 260 (x4).toNat).toNat))), none]) e90_134 rfl (by decide) rfl ?_
                    refine w_x e90_137 (fun _ => rfl) ?_
                    exact w_sub (A1 := [some (.ref 238), some (.int (vz i1)), some (.int (vz (x2 + 1))), some (.int (vz 0)), some (.int (vz (x4 + 1))), none, none, none]) (And.intro rfl (And.intro rfl (And.intro rfl (And.intro rfl (And.intro rfl trivial))))) ((ih) v127 al128 az45 (x2 + 1) 0 (x4 + 1) hM129 hK hF131 (by omega) (by omega) (by omega) (tbk_step hi0 (by omega) (by decide) hd47) (sg_add hi1 (by omega) (by omega) ⟨by omega, by omega, by omega⟩ hd120 hd130) (by omega))
                ·
                  refine w_ldA e90_77 (fun _ => rfl) rfl ?_
                  have e132 := tm_o hM46
                  refine w_get e90_78 e132 rfl ?_
                  refine w_ldI e90_81 (fun _ => rfl) rfl ?_
                  have e133 := tm_l hM46 (a := 257) (n := 16384) rfl
                  refine w_lld e90_83 e133 (by omega) (by omega) (by decide) ?_
                  refine w_cs e90_84 (by decide) (Nat.le_of_ble_eq_true rfl) (Nat.le_of_ble_eq_true rfl) (Nat.le_of_ble_eq_true rfl) (by decide) (by decide) (c89 ) (fun o134 v135 hq136 => ?_)
                  obtain ⟨rfl, q137, h138, rfl⟩ := hq136
                  refine w_if e90_87 (by omega) (fun (h139 : q137 = 0) => ?_) (fun (h139 : q137 ≠ 0) => ?_)
                  ·
                    refine w_kI e90_94 ?_
                    refine w_stI (j := 3) (A1 := [some (.ref 238), some (.int (vz i1)), some (.int (vz x2)), some (.int (vz 0)), some (.int (vz x4)), some (.int (vz (ai 260 (x4).toNat))), some (.long ((al_ 258 (ai 260 (x4).toNat).toNat))), none]) e90_95 (fun _ => rfl) (by decide) rfl ?_
                    refine w_ldI e90_96 (fun _ => rfl) rfl ?_
                    refine w_if e90_97 (by omega) (fun (h140 : 0 = 0) => ?_) (fun (h140 : 0 ≠ 0) => ?_)
                    ·
                      refine w_iinc (A1 := [some (.ref 238), some (.int (vz i1)), some (.int (vz x2)), some (.int (vz 0)), some (.int (vz (x4 + 1))), some (.int (vz (ai 260 (x4).toNat))), some (.long ((al_ 258 (ai 260 (x4).toNat).toNat))), none]) e90_134 rfl (by decide) rfl ?_
                      refine w_x e90_137 (fun _ => rfl) ?_
                      exact w_sub (A1 := [some (.ref 238), some (.int (vz i1)), some (.int (vz x2)), some (.int (vz 0)), some (.int (vz (x4 + 1))), none, none, none]) (And.intro rfl (And.intro rfl (And.intro rfl (And.intro rfl (And.intro rfl trivial))))) ((ih) v44 al_ az45 x2 0 (x4 + 1) hM46 hK hF48 (by omega) (by omega) (by omega) (tbk_step hi0 (by omega) (by decide) hd47) hi1 (by omega))
                    ·
                      refine w_ldA e90_100 (fun _ => rfl) rfl ?_
                      refine w_get e90_101 e132 rfl ?_
                      refine w_kB e90_104 rfl ?_
                      refine w_ldI e90_106 (fun _ => rfl) rfl ?_
                      refine w_imul e90_107 ?_
                      refine w_ldI e90_108 (fun _ => rfl) rfl ?_
                      refine w_iadd e90_109 ?_
                      refine w_ldL e90_110 (fun _ => rfl) rfl ?_
                      have e141 := tm_l hM46 (a := 243) (n := 4320) rfl
                      refine w_lst e90_112 e141 (by omega) (by omega) (by decide) (fun v144 b142 h143 => ?_)
                      obtain ⟨al145, hd147, hM146⟩ : ∃ z, z = u2 al_ 243 ((60 * i1) + x2).toNat ((al_ 258 (ai 260 (x4).toNat).toNat)) ∧ tm sc ai z az45 v0 v144 := ⟨_, rfl, tm_pl hM46 rfl b142 h143⟩
                      have hF148 : fr [38] [259] (i1).toNat (i1).toNat sc ai al az sc ai al145 az45 := fr_k hF48 hd147 (by decide) (by omega)
                      refine w_ldA e90_113 (fun _ => rfl) rfl ?_
                      have e149 := tm_o hM146
                      refine w_get e90_114 e149 rfl ?_
                      refine w_kB e90_117 rfl ?_
                      refine w_ldI e90_119 (fun _ => rfl) rfl ?_
                      refine w_imul e90_120 ?_
                      refine w_ldI e90_121 (fun _ => rfl) rfl ?_
                      refine w_iadd e90_122 ?_
                      refine w_ldA e90_123 (fun _ => rfl) rfl ?_
                      refine w_get e90_124 e149 rfl ?_
                      refine w_ldI e90_127 (fun _ => rfl) rfl ?_
                      have e150 := tm_l hM146 (a := 257) (n := 16384) rfl
                      refine w_lld e90_129 e150 (by omega) (by omega) (by decide) ?_
                      have e151 := tm_l hM146 (a := 244) (n := 4320) rfl
                      refine w_lst e90_130 e151 (by omega) (by omega) (by decide) (fun v154 b152 h153 => ?_)
                      obtain ⟨al155, hd157, hM156⟩ : ∃ z, z = u2 al145 244 ((60 * i1) + x2).toNat ((al145 257 (ai 260 (x4).toNat).toNat)) ∧ tm sc ai z az45 v0 v154 := ⟨_, rfl, tm_pl hM146 rfl b152 h153⟩
                      have hF158 : fr [38] [259] (i1).toNat (i1).toNat sc ai al az sc ai al155 az45 := fr_k hF148 hd157 (by decide) (by omega)
                      refine w_iinc (A1 := [some (.ref 238), some (.int (vz i1)), some (.int (vz (x2 + 1))), some (.int (vz 0)), some (.int (vz x4)), some (.int (vz (ai 260 (x4).toNat))), some (.long ((al_ 258 (ai 260 (x4).toNat).toNat))), none]) e90_131 rfl (by decide) rfl ?_
                      refine w_iinc (A1 := [some (.ref 238), some (.int (vz i1)), some (.int (vz (x2 + 1))), some (.int (vz 0)), some (.int (vz (x4 + 1))), some (.int (vz (ai 260 (x4).toNat))), some (.long ((al_ 258 (ai 260 (x4).toNat).toNat))), none]) e90_134 rfl (by decide) rfl ?_
                      refine w_x e90_137 (fun _ => rfl) ?_
                      exact w_sub (A1 := [some (.ref 238), some (.int (vz i1)), some (.int (vz (x2 + 1))), some (.int (vz 0)), some (.int (vz (x4 + 1))), none, none, none]) (And.intro rfl (And.intro rfl (And.intro rfl (And.intro rfl (And.intro rfl trivial))))) ((ih) v154 al155 az45 (x2 + 1) 0 (x4 + 1) hM156 hK hF158 (by omega) (by omega) (by omega) (tbk_step hi0 (by omega) (by decide) hd47) (sg_add hi1 (by omega) (by omega) ⟨by omega, by omega, by omega⟩ hd147 hd157) (by omega))
                  ·
                    refine w_kI e90_90 ?_
                    refine w_x e90_91 (fun _ => rfl) ?_
                    refine w_stI (j := 3) (A1 := [some (.ref 238), some (.int (vz i1)), some (.int (vz x2)), some (.int (vz 1)), some (.int (vz x4)), some (.int (vz (ai 260 (x4).toNat))), some (.long ((al_ 258 (ai 260 (x4).toNat).toNat))), none]) e90_95 (fun _ => rfl) (by decide) rfl ?_
                    refine w_ldI e90_96 (fun _ => rfl) rfl ?_
                    refine w_if e90_97 (by omega) (fun (h159 : 1 = 0) => ?_) (fun (h159 : 1 ≠ 0) => ?_)
                    ·
                      refine w_iinc (A1 := [some (.ref 238), some (.int (vz i1)), some (.int (vz x2)), some (.int (vz 1)), some (.int (vz (x4 + 1))), some (.int (vz (ai 260 (x4).toNat))), some (.long ((al_ 258 (ai 260 (x4).toNat).toNat))), none]) e90_134 rfl (by decide) rfl ?_
                      refine w_x e90_137 (fun _ => rfl) ?_
                      exact w_sub (A1 := [some (.ref 238), some (.int (vz i1)), some (.int (vz x2)), some (.int (vz 1)), some (.int (vz (x4 + 1))), none, none, none]) (And.intro rfl (And.intro rfl (And.intro rfl (And.intro rfl (And.intro rfl trivial))))) ((ih) v44 al_ az45 x2 1 (x4 + 1) hM46 hK hF48 (by omega) (by omega) (by omega) (tbk_step hi0 (by omega) (by decide) hd47) hi1 (by omega))
                    ·
                      refine w_ldA e90_100 (fun _ => rfl) rfl ?_
                      refine w_get e90_101 e132 rfl ?_
                      refine w_kB e90_104 rfl ?_
                      refine w_ldI e90_106 (fun _ => rfl) rfl ?_
                      refine w_imul e90_107 ?_
                      refine w_ldI e90_108 (fun _ => rfl) rfl ?_
                      refine w_iadd e90_109 ?_
                      refine w_ldL e90_110 (fun _ => rfl) rfl ?_
                      have e160 := tm_l hM46 (a := 243) (n := 4320) rfl
                      refine w_lst e90_112 e160 (by omega) (by omega) (by decide) (fun v163 b161 h162 => ?_)
                      obtain ⟨al164, hd166, hM165⟩ : ∃ z, z = u2 al_ 243 ((60 * i1) + x2).toNat ((al_ 258 (ai 260 (x4).toNat).toNat)) ∧ tm sc ai z az45 v0 v163 := ⟨_, rfl, tm_pl hM46 rfl b161 h162⟩
                      have hF167 : fr [38] [259] (i1).toNat (i1).toNat sc ai al az sc ai al164 az45 := fr_k hF48 hd166 (by decide) (by omega)
                      refine w_ldA e90_113 (fun _ => rfl) rfl ?_
                      have e168 := tm_o hM165
                      refine w_get e90_114 e168 rfl ?_
                      refine w_kB e90_117 rfl ?_
                      refine w_ldI e90_119 (fun _ => rfl) rfl ?_
                      refine w_imul e90_120 ?_
                      refine w_ldI e90_121 (fun _ => rfl) rfl ?_
                      refine w_iadd e90_122 ?_
                      refine w_ldA e90_123 (fun _ => rfl) rfl ?_
                      refine w_get e90_124 e168 rfl ?_
                      refine w_ldI e90_127 (fun _ => rfl) rfl ?_
                      have e169 := tm_l hM165 (a := 257) (n := 16384) rfl
                      refine w_lld e90_129 e169 (by omega) (by omega) (by decide) ?_
                      have e170 := tm_l hM165 (a := 244) (n := 4320) rfl
                      refine w_lst e90_130 e170 (by omega) (by omega) (by decide) (fun v173 b171 h172 => ?_)
                      obtain ⟨al174, hd176, hM175⟩ : ∃ z, z = u2 al164 244 ((60 * i1) + x2).toNat ((al164 257 (ai 260 (x4).toNat).toNat)) ∧ tm sc ai z az45 v0 v173 := ⟨_, rfl, tm_pl hM165 rfl b171 h172⟩
                      have hF177 : fr [38] [259] (i1).toNat (i1).toNat sc ai al az sc ai al174 az45 := fr_k hF167 hd176 (by decide) (by omega)
                      refine w_iinc (A1 := [some (.ref 238), some (.int (vz i1)), some (.int (vz (x2 + 1))), some (.int (vz 1)), some (.int (vz x4)), some (.int (vz (ai 260 (x4).toNat))), some (.long ((al_ 258 (ai 260 (x4).toNat).toNat))), none]) e90_131 rfl (by decide) rfl ?_
                      refine w_iinc (A1 := [some (.ref 238), some (.int (vz i1)), some (.int (vz (x2 + 1))), some (.int (vz 1)), some (.int (vz (x4 + 1))), some (.int (vz (ai 260 (x4).toNat))), some (.long ((al_ 258 (ai 260 (x4).toNat).toNat))), none]) e90_134 rfl (by decide) rfl ?_
                      refine w_x e90_137 (fun _ => rfl) ?_
                      exact w_sub (A1 := [some (.ref 238), some (.int (vz i1)), some (.int (vz (x2 + 1))), some (.int (vz 1)), some (.int (vz (x4 + 1))), none, none, none]) (And.intro rfl (And.intro rfl (And.intro rfl (And.intro rfl (And.intro rfl trivial))))) ((ih) v173 al174 az45 (x2 + 1) 1 (x4 + 1) hM175 hK hF177 (by omega) (by omega) (by omega) (tbk_step hi0 (by omega) (by decide) hd47) (sg_add hi1 (by omega) (by omega) ⟨by omega, by omega, by omega⟩ hd166 hd176) (by omega))
set_option maxRecDepth 100000 in
set_option maxHeartbeats 4000000 in
theorem c90 {sc : Nat → Int} {ai : Nat → Nat → Int} {al : Nat → Nat → Int64} {az : Nat → Nat → Int32} {v0 vh : vm_H} (hM : tm sc ai al az v0 vh) (hK : tmok ai) (hI : gj sc ai al az) {i1 : Int} (hi_1 : 0 ≤ i1 ∧ i1 < 72) (hB : tb sc ai az) : vm_Rp 3 77 90 [.ref 238, .int (vz i1)] vh (fun r v1 => (∃ (sc1 : Nat → Int) (ai1 : Nat → Nat → Int) (al1 : Nat → Nat → Int64) (az1 : Nat → Nat → Int32), tm sc1 ai1 al1 az1 v0 v1 ∧ tmok ai1 ∧ gi sc1 ai1 al1 az1 ∧ fr [38] [259] (i1).toNat (i1).toNat sc ai al az sc1 ai1 al1 az1 ∧ (True)) ∧ ∃ q : Int, ((0 ≤ q ∧ q ≤ 1)) ∧ r = some (.int (vz q))) := by
  have hF0 : fr [38] [259] (i1).toNat (i1).toNat sc ai al az sc ai al az := fr_0 _ _ _ _ _ _ _ _
  have hB1 := hB.1
  refine w_in (m := 6) ?_
  show vm_Wp _ _ _ 0 [some (.ref 238), some (.int (vz i1)), none, none, none, none, none, none] [] _ _
  refine w_kI e90_0 ?_
  refine w_stI (j := 2) (A1 := [some (.ref 238), some (.int (vz i1)), some (.int (vz 0)), none, none, none, none, none]) e90_1 (fun _ => rfl) (by decide) rfl ?_
  refine w_kI e90_2 ?_
  refine w_stI (j := 3) (A1 := [some (.ref 238), some (.int (vz i1)), some (.int (vz 0)), some (.int (vz 1)), none, none, none, none]) e90_3 (fun _ => rfl) (by decide) rfl ?_
  refine w_kI e90_4 ?_
  refine w_stI (j := 4) (A1 := [some (.ref 238), some (.int (vz i1)), some (.int (vz 0)), some (.int (vz 1)), some (.int (vz 0)), none, none, none]) e90_5 (fun _ => rfl) (by decide) rfl ?_
  exact w_sub (A1 := [some (.ref 238), some (.int (vz i1)), some (.int (vz 0)), some (.int (vz 1)), some (.int (vz 0)), none, none, none]) (And.intro rfl (And.intro rfl (And.intro rfl (And.intro rfl (And.intro rfl trivial))))) (((c90_L (sc := sc) (ai := ai) (al := al) (az := az) (v0 := v0) (i1 := i1) hK hI hi_1 hB _)) vh al az 0 1 0 hM hK hF0 (by omega) (by omega) (by omega) (tbk_0 hB) (sg_0 _ _) (Nat.lt_succ_self _))
