set_option maxRecDepth 100000 in
set_option maxHeartbeats 4000000 in
theorem c106x_L {sc : Nat → Int} {ai : Nat → Nat → Int} {al : Nat → Nat → Int64} {az : Nat → Nat → Int32} {v0 : vm_H} (hK0 : tmok ai) (hI : gi sc ai al az) {i1 : Int} (hi_1 : -2147483648 ≤ i1 ∧ i1 < 2147483648) {i2 : Int} (hi_2 : -2147483648 ≤ i2 ∧ i2 < 2147483648) (hR : ri2 sc ai al az) : ∀ N : Nat, (∀ (vh : vm_H) (sc_ : Nat → Int) (x3 : Int), (tm sc_ ai al az v0 vh) → (tmok ai) → (gi sc_ ai al az) → (fr [0, 10, 11, 12, 18] [240] 0 68 sc ai al az sc_ ai al az) → (0 ≤ x3 ∧ x3 < sc 1) → (ri2 sc_ ai al az) → (∃ j : Nat, x3 ≤ (j : Int) ∧ (j : Int) < sc 1 ∧ ai 240 j = i2) → ((sc_ 1 = sc 1 ∧ sc_ 4 = sc 4) ∧ (0 ≤ i1 ∧ i1 < sc 1) ∧ (0 ≤ i2 ∧ i2 < sc 1)) → ((2000 + 8 - x3 : Int).toNat < N) → vm_Wp 3 77 106 33 [some (.ref 238), some (.int (vz i1)), some (.int (vz i2)), some (.int (vz x3)), none] [] vh (vq_P 106 (fun r v1 => (∃ (sc1 : Nat → Int) (ai1 : Nat → Nat → Int) (al1 : Nat → Nat → Int64) (az1 : Nat → Nat → Int32), tm sc1 ai1 al1 az1 v0 v1 ∧ tmok ai1 ∧ gi sc1 ai1 al1 az1 ∧ fr [0, 10, 11, 12, 18] [240] 0 68 sc ai al az sc1 ai1 al1 az1 ∧ (ri2 sc1 ai1 al1 az1 ∧ (∀ j : Nat, ai1 242 j = ai 242 j) ∧ ∀ i : Nat, i < 16 → slp ai al al1 i)) ∧ ∃ q : Int, ((0 ≤ q ∧ q ≤ 1) ∧ (q = 1 ↔ (0 ≤ i2 ∧ i2 < sc 1 ∧ 0 ≤ i1 ∧ i1 < sc 1))) ∧ r = some (.int (vz q))))) ∧ (∀ (vh : vm_H) (sc_ : Nat → Int) (ai_ : Nat → Nat → Int) (x3 : Int), (tm sc_ ai_ al az v0 vh) → (tmok ai_) → (gi sc_ ai_ al az) → (fr [0, 10, 11, 12, 18] [240] 0 68 sc ai al az sc_ ai_ al az) → (0 ≤ x3 ∧ x3 < sc 1) → (hol ai_ (sc 1) i2 x3) → ((sc_ 1 = sc 1 ∧ sc_ 4 = sc 4) ∧ (0 ≤ i1 ∧ i1 < sc 1) ∧ (0 ≤ i2 ∧ i2 < sc 1)) → (∀ j : Nat, ai_ 242 j = ai 242 j) → ((1000 + 8 - x3 : Int).toNat < N) → vm_Wp 3 77 106 56 [some (.ref 238), some (.int (vz i1)), some (.int (vz i2)), some (.int (vz x3)), none] [] vh (vq_P 106 (fun r v1 => (∃ (sc1 : Nat → Int) (ai1 : Nat → Nat → Int) (al1 : Nat → Nat → Int64) (az1 : Nat → Nat → Int32), tm sc1 ai1 al1 az1 v0 v1 ∧ tmok ai1 ∧ gi sc1 ai1 al1 az1 ∧ fr [0, 10, 11, 12, 18] [240] 0 68 sc ai al az sc1 ai1 al1 az1 ∧ (ri2 sc1 ai1 al1 az1 ∧ (∀ j : Nat, ai1 242 j = ai 242 j) ∧ ∀ i : Nat, i < 16 → slp ai al al1 i)) ∧ ∃ q : Int, ((0 ≤ q ∧ q ≤ 1) ∧ (q = 1 ↔ (0 ≤ i2 ∧ i2 < sc 1 ∧ 0 ≤ i1 ∧ i1 < sc 1))) ∧ r = some (.int (vz q))))) ∧ (∀ (vh : vm_H) (sc_ : Nat → Int) (ai_ : Nat → Nat → Int) (x3 : Int), (tm sc_ ai_ al az v0 vh) → (tmok ai_) → (gi sc_ ai_ al az) → (fr [0, 10, 11, 12, 18] [240] 0 68 sc ai al az sc_ ai_ al az) → (i1 ≤ x3 ∧ x3 < sc 1) → (hol ai_ (sc 1) i2 x3) → ((sc_ 1 = sc 1 ∧ sc_ 4 = sc 4) ∧ (0 ≤ i1 ∧ i1 < sc 1) ∧ (0 ≤ i2 ∧ i2 < sc 1)) → (∀ j : Nat, ai_ 242 j = ai 242 j) → ((100 + x3 : Int).toNat < N) → vm_Wp 3 77 106 81 [some (.ref 238), some (.int (vz i1)), some (.int (vz i2)), some (.int (vz x3)), none] [] vh (vq_P 106 (fun r v1 => (∃ (sc1 : Nat → Int) (ai1 : Nat → Nat → Int) (al1 : Nat → Nat → Int64) (az1 : Nat → Nat → Int32), tm sc1 ai1 al1 az1 v0 v1 ∧ tmok ai1 ∧ gi sc1 ai1 al1 az1 ∧ fr [0, 10, 11, 12, 18] [240] 0 68 sc ai al az sc1 ai1 al1 az1 ∧ (ri2 sc1 ai1 al1 az1 ∧ (∀ j : Nat, ai1 242 j = ai 242 j) ∧ ∀ i : Nat, i < 16 → slp ai al al1 i)) ∧ ∃ q : Int, ((0 ≤ q ∧ q ≤ 1) ∧ (q = 1 ↔ (0 ≤ i2 ∧ i2 < sc 1 ∧ 0 ≤ i1 ∧ i1 < sc 1))) ∧ r = some (.int (vz q))))) ∧ (∀ (vh : vm_H) (sc_ : Nat → Int) (ai_ : Nat → Nat → Int) (al_ : Nat → Nat → Int64) (az_ : Nat → Nat → Int32) (x3 : Int) (x4 : Int), (tm sc_ ai_ al_ az_ v0 vh) → (tmok ai_) → (gi sc_ ai_ al_ az_) → (fr [0, 10, 11, 12, 18] [240] 0 68 sc ai al az sc_ ai_ al_ az_) → (-2147483648 ≤ x3 ∧ x3 < 2147483648) → (0 ≤ x4 ∧ x4 ≤ 16) → (ri2 sc_ ai_ al_ az_) → ((sc_ 1 = sc 1 ∧ sc_ 4 = sc 4) ∧ (0 ≤ i1 ∧ i1 < sc 1) ∧ (0 ≤ i2 ∧ i2 < sc 1)) → (∀ j : Nat, ai_ 242 j = ai 242 j) → (∀ i : Nat, i < 16 → slp ai al al_ i) → ((16 - x4 : Int).toNat < N) → vm_Wp 3 77 106 120 [some (.ref 238), some (.int (vz i1)), some (.int (vz i2)), some (.int (vz x3)), some (.int (vz x4))] [] vh (vq_P 106 (fun r v1 => (∃ (sc1 : Nat → Int) (ai1 : Nat → Nat → Int) (al1 : Nat → Nat → Int64) (az1 : Nat → Nat → Int32), tm sc1 ai1 al1 az1 v0 v1 ∧ tmok ai1 ∧ gi sc1 ai1 al1 az1 ∧ fr [0, 10, 11, 12, 18] [240] 0 68 sc ai al az sc1 ai1 al1 az1 ∧ (ri2 sc1 ai1 al1 az1 ∧ (∀ j : Nat, ai1 242 j = ai 242 j) ∧ ∀ i : Nat, i < 16 → slp ai al al1 i)) ∧ ∃ q : Int, ((0 ≤ q ∧ q ≤ 1) ∧ (q = 1 ↔ (0 ≤ i2 ∧ i2 < sc 1 ∧ 0 ≤ i1 ∧ i1 < sc 1))) ∧ r = some (.int (vz q))))) := by
  have hF0 : fr [0, 10, 11, 12, 18] [240] 0 68 sc ai al az sc ai al az := fr_0 _ _ _ _ _ _ _ _
  intro N
  induction N with
  | zero => exact ⟨by intros; omega, by intros; omega, by intros; omega, by intros; omega⟩
  | succ N ih =>
    refine ⟨?_, ?_, ?_, ?_⟩
    ·
      intro vh sc_ x3 hM hK hJ hF hx3 hi0 hi1 hi2 hN
      obtain ⟨jj, hj1, hj2, hj3⟩ := hi1
      have hn8 := hJ.1.1
      refine w_ldA e106_33 (fun _ => rfl) rfl ?_
      have e23 := tm_o hM
      refine w_get e106_34 e23 rfl ?_
      refine w_ldI e106_37 (fun _ => rfl) rfl ?_
      have e24 := tm_i hM (a := 240) (n := 8) rfl
      refine w_ald e106_38 e24 (by omega) (by omega) (by decide) ?_
      show vm_Wp _ _ _ 39 _ [.int (vz (ai 240 (x3).toNat))] _ _
      have hk25 := hK.2 (x3).toNat
      refine w_ldI e106_39 (fun _ => rfl) rfl ?_
      refine w_ic e106_40 (tm_r hM 240 (x3).toNat) hi_2 (fun (h26 : ai 240 (x3).toNat = i2) => ?_) (fun (h26 : ai 240 (x3).toNat ≠ i2) => ?_)
      ·
        refine w_ldI e106_49 (fun _ => rfl) rfl ?_
        refine w_ldI e106_50 (fun _ => rfl) rfl ?_
        refine w_ic e106_51 (by omega) hi_1 (fun (h27 : x3 ≠ i1) => ?_) (fun (h27 : x3 = i1) => ?_)
        ·
          exact w_sub (A1 := [some (.ref 238), some (.int (vz i1)), some (.int (vz i2)), some (.int (vz x3)), none]) (And.intro rfl (And.intro rfl (And.intro rfl (And.intro rfl trivial)))) ((ih.2.1) vh sc_ ai x3 hM hK hJ hF (by omega) (hol_n (hol_0 hi0.1 (by omega) h26) (by omega)) (by omega) (fun _ => rfl) (by omega))
        ·
          refine w_kI e106_54 ?_
          exact w_rz e106_55 rfl (by omega) ⟨⟨sc_, ai, al, az, hM, hK, hJ, hF, ⟨hi0, (fun _ => rfl), (fun _ _ => slp_0)⟩⟩, 1, (by omega), rfl⟩
      ·
        have hne28 : (x3).toNat ≠ jj := fun e => h26 (by rw [e]; exact hj3)
        refine w_iinc (A1 := [some (.ref 238), some (.int (vz i1)), some (.int (vz i2)), some (.int (vz (x3 + 1))), none]) e106_43 rfl (by decide) rfl ?_
        refine w_x e106_46 (fun _ => rfl) ?_
        exact w_sub (A1 := [some (.ref 238), some (.int (vz i1)), some (.int (vz i2)), some (.int (vz (x3 + 1))), none]) (And.intro rfl (And.intro rfl (And.intro rfl (And.intro rfl trivial)))) ((ih.1) vh sc_ (x3 + 1) hM hK hJ hF (by omega) hi0 ⟨jj, by omega, hj2, hj3⟩ (by omega) (by omega))
    ·
      intro vh sc_ ai_ x3 hM hK hJ hF hx3 hi0 hi1 hi2 hN
      have hn8 := hJ.1.1
      refine w_ldI e106_56 (fun _ => rfl) rfl ?_
      refine w_ldI e106_57 (fun _ => rfl) rfl ?_
      refine w_ic e106_58 (by omega) hi_1 (fun (h29 : i1 ≤ x3) => ?_) (fun (h29 : x3 < i1) => ?_)
      ·
        exact w_sub (A1 := [some (.ref 238), some (.int (vz i1)), some (.int (vz i2)), some (.int (vz x3)), none]) (And.intro rfl (And.intro rfl (And.intro rfl (And.intro rfl trivial)))) ((ih.2.2.1) vh sc_ ai_ x3 hM hK hJ hF (by omega) hi0 (by omega) hi2 (by omega))
      ·
        refine w_ldA e106_61 (fun _ => rfl) rfl ?_
        have e30 := tm_o hM
        refine w_get e106_62 e30 rfl ?_
        refine w_ldI e106_65 (fun _ => rfl) rfl ?_
        refine w_ldA e106_66 (fun _ => rfl) rfl ?_
        refine w_get e106_67 e30 rfl ?_
        refine w_ldI e106_70 (fun _ => rfl) rfl ?_
        refine w_kI e106_71 ?_
        refine w_iadd e106_72 ?_
        have e31 := tm_i hM (a := 240) (n := 8) rfl
        refine w_ald e106_73 e31 (by omega) (by omega) (by decide) ?_
        show vm_Wp _ _ _ 74 _ [.int (vz (ai_ 240 (x3 + 1).toNat)), .int (vz x3), .ref 240] _ _
        have hk32 := hK.2 (x3 + 1).toNat
        refine w_ast e106_74 e31 (by omega) (by omega) (by decide) (by decide) (fun v35 b33 h34 => ?_)
        obtain ⟨ai36, hd38, hM37⟩ : ∃ z, z = u2 ai_ 240 (x3).toNat (ai_ 240 (x3 + 1).toNat) ∧ tm sc_ z al az v0 v35 := ⟨_, rfl, tm_pi hM rfl (tm_r hM 240 (x3 + 1).toNat) b33 h34⟩
        have hK39 : tmok ai36 := by rw [hd38]; exact tmok_o hK (by omega)
        have hF40 : fr [0, 10, 11, 12, 18] [240] 0 68 sc ai al az sc_ ai36 al az := fr_i hF hd38 rfl (by decide)
        have hI41 : gi sc_ ai36 al az := gi_i hJ hd38 (by decide)
        have hc42 := cnt_o hi2 hd38 (by decide)
        refine w_iinc (A1 := [some (.ref 238), some (.int (vz i1)), some (.int (vz i2)), some (.int (vz (x3 + 1))), none]) e106_75 rfl (by decide) rfl ?_
        refine w_x e106_78 (fun _ => rfl) ?_
        exact w_sub (A1 := [some (.ref 238), some (.int (vz i1)), some (.int (vz i2)), some (.int (vz (x3 + 1))), none]) (And.intro rfl (And.intro rfl (And.intro rfl (And.intro rfl trivial)))) ((ih.2.1) v35 sc_ ai36 (x3 + 1) hM37 hK39 hI41 hF40 (by omega) (hol_up hi0 (by omega) rfl hd38) (by omega) hc42 (by omega))
    ·
      intro vh sc_ ai_ x3 hM hK hJ hF hx3 hi0 hi1 hi2 hN
      have hn8 := hJ.1.1
      refine w_ldI e106_81 (fun _ => rfl) rfl ?_
      refine w_ldI e106_82 (fun _ => rfl) rfl ?_
      refine w_ic e106_83 (by omega) hi_1 (fun (h43 : x3 ≤ i1) => ?_) (fun (h43 : i1 < x3) => ?_)
      ·
        refine w_ldA e106_106 (fun _ => rfl) rfl ?_
        have e44 := tm_o hM
        refine w_get e106_107 e44 rfl ?_
        refine w_ldI e106_110 (fun _ => rfl) rfl ?_
        refine w_ldI e106_111 (fun _ => rfl) rfl ?_
        have e45 := tm_i hM (a := 240) (n := 8) rfl
        refine w_ast e106_112 e45 (by omega) (by omega) (by decide) (by decide) (fun v48 b46 h47 => ?_)
        obtain ⟨ai49, hd51, hM50⟩ : ∃ z, z = u2 ai_ 240 (i1).toNat i2 ∧ tm sc_ z al az v0 v48 := ⟨_, rfl, tm_pi hM rfl hi_2 b46 h47⟩
        have hK52 : tmok ai49 := by rw [hd51]; exact tmok_o hK (by omega)
        have hF53 : fr [0, 10, 11, 12, 18] [240] 0 68 sc ai al az sc_ ai49 al az := fr_i hF hd51 rfl (by decide)
        have hI54 : gi sc_ ai49 al az := gi_i hJ hd51 (by decide)
        have hS55 : sj sc_ ai49 := hol_end (hol_n hi0 (by omega)) (by omega) (by omega) hd51
        have hc56 := cnt_o hi2 hd51 (by decide)
        refine w_ldA e106_113 (fun _ => rfl) rfl ?_
        have e57 := tm_o hM50
        refine w_cv e106_114 (by decide) rfl e57 rfl (Nat.le_of_ble_eq_true rfl) (Nat.le_of_ble_eq_true rfl) (Nat.le_of_ble_eq_true rfl) (by decide) (by decide) (k101 hM50 hK52 hI54) (fun o58 v59 hq60 => ?_)
        obtain ⟨⟨sc61, hM65, hI67, hG68, hE69⟩, rfl⟩ := hq60
        have hs70 : sc61 0 = sc_ 0 := hG68.1 0 rfl
        have hs71 : sc61 1 = sc_ 1 := hG68.1 1 rfl
        have hs72 : sc61 4 = sc_ 4 := hG68.1 4 rfl
        have hs73 : sc61 38 = sc_ 38 := hG68.1 38 rfl
        have hF74 : fr [0, 10, 11, 12, 18] [240] 0 68 sc ai al az sc61 ai49 al az := fr_t hF53 hG68 rfl rfl (by omega)
        have hS75 := sjk_fr hS55 hK52 hG68 rfl rfl
        have hf76 := hE69.1
        have hf77 := hE69.2
        have hR78 : ri2 sc61 ai49 al az := ri2_0 hS75 (by omega) (by omega)
        refine w_kI e106_117 ?_
        refine w_stI (j := 4) (A1 := [some (.ref 238), some (.int (vz i1)), some (.int (vz i2)), some (.int (vz x3)), some (.int (vz 0))]) e106_118 (fun _ => rfl) (by decide) rfl ?_
        exact w_sub (A1 := [some (.ref 238), some (.int (vz i1)), some (.int (vz i2)), some (.int (vz x3)), some (.int (vz 0))]) (And.intro rfl (And.intro rfl (And.intro rfl (And.intro rfl (And.intro rfl trivial))))) ((ih.2.2.2) v59 sc61 ai49 al az x3 0 hM65 hK52 hI67 hF74 (by omega) (by omega) hR78 (by omega) hc56 (fun _ _ => slp_0) (by omega))
      ·
        refine w_ldA e106_86 (fun _ => rfl) rfl ?_
        have e79 := tm_o hM
        refine w_get e106_87 e79 rfl ?_
        refine w_ldI e106_90 (fun _ => rfl) rfl ?_
        refine w_ldA e106_91 (fun _ => rfl) rfl ?_
        refine w_get e106_92 e79 rfl ?_
        refine w_ldI e106_95 (fun _ => rfl) rfl ?_
        refine w_kI e106_96 ?_
        refine w_isub e106_97 ?_
        have e80 := tm_i hM (a := 240) (n := 8) rfl
        refine w_ald e106_98 e80 (by omega) (by omega) (by decide) ?_
        show vm_Wp _ _ _ 99 _ [.int (vz (ai_ 240 (x3 - 1).toNat)), .int (vz x3), .ref 240] _ _
        have hk81 := hK.2 (x3 - 1).toNat
        refine w_ast e106_99 e80 (by omega) (by omega) (by decide) (by decide) (fun v84 b82 h83 => ?_)
        obtain ⟨ai85, hd87, hM86⟩ : ∃ z, z = u2 ai_ 240 (x3).toNat (ai_ 240 (x3 - 1).toNat) ∧ tm sc_ z al az v0 v84 := ⟨_, rfl, tm_pi hM rfl (tm_r hM 240 (x3 - 1).toNat) b82 h83⟩
        have hK88 : tmok ai85 := by rw [hd87]; exact tmok_o hK (by omega)
        have hF89 : fr [0, 10, 11, 12, 18] [240] 0 68 sc ai al az sc_ ai85 al az := fr_i hF hd87 rfl (by decide)
        have hI90 : gi sc_ ai85 al az := gi_i hJ hd87 (by decide)
        have hc91 := cnt_o hi2 hd87 (by decide)
        refine w_iinc (A1 := [some (.ref 238), some (.int (vz i1)), some (.int (vz i2)), some (.int (vz (x3 + (-1)))), none]) e106_100 rfl (by decide) rfl ?_
        refine w_x e106_103 (fun _ => rfl) ?_
        exact w_sub (A1 := [some (.ref 238), some (.int (vz i1)), some (.int (vz i2)), some (.int (vz (x3 + (-1)))), none]) (And.intro rfl (And.intro rfl (And.intro rfl (And.intro rfl trivial)))) ((ih.2.2.1) v84 sc_ ai85 (x3 + (-1)) hM86 hK88 hI90 hF89 (by omega) (hol_dn hi0 (by omega) rfl hd87) (by omega) hc91 (by omega))
    ·
      intro vh sc_ ai_ al_ az_ x3 x4 hM hK hJ hF hx3 hx4 hi0 hi1 hi2 hi3 hN
      have hn8 := hJ.1.1
      refine w_ldI e106_120 (fun _ => rfl) rfl ?_
      refine w_ldA e106_122 (fun _ => rfl) rfl ?_
      have e92 := tm_o hM
      refine w_get e106_123 e92 rfl ?_
      refine w_ic e106_126 (by omega) (tm_s hM 4) (fun (h93 : sc_ 4 ≤ x4) => ?_) (fun (h93 : x4 < sc_ 4) => ?_)
      ·
        refine w_ldA e106_141 (fun _ => rfl) rfl ?_
        refine w_kB e106_142 rfl ?_
        refine w_cv e106_144 (by decide) rfl e92 rfl (Nat.le_of_ble_eq_true rfl) (Nat.le_of_ble_eq_true rfl) (Nat.le_of_ble_eq_true rfl) (by decide) (by decide) (k80x hM hK hJ (by omega)) (fun o94 v95 hq96 => ?_)
        obtain ⟨⟨sc97, ai98, al99, az100, hM101, hK102, hI103, hG104, hE105⟩, rfl⟩ := hq96
        have hs106 : sc97 0 = sc_ 0 := hG104.1 0 rfl
        have hs107 : sc97 1 = sc_ 1 := hG104.1 1 rfl
        have hs108 : sc97 4 = sc_ 4 := hG104.1 4 rfl
        have hs109 : sc97 11 = sc_ 11 := hG104.1 11 rfl
        have hs110 : sc97 18 = sc_ 18 := hG104.1 18 rfl
        have hs111 : sc97 38 = sc_ 38 := hG104.1 38 rfl
        have hF112 : fr [0, 10, 11, 12, 18] [240] 0 68 sc ai al az sc97 ai98 al99 az100 := fr_t hF hG104 rfl rfl (by omega)
        have hR113 := ri2_fr hi0 hK hG104 rfl rfl rfl rfl rfl rfl rfl rfl rfl (by omega)
        have hS114 := sjk_fr hi0.1 hK hG104 rfl rfl
        have hl116 := slp_step hi3 hi2 hK hG104 hE105.2
        have hc115 : ∀ j : Nat, ai98 242 j = ai 242 j := by rw [hE105.1]; exact hi2
        refine w_kI e106_147 ?_
        exact w_rz e106_148 rfl (by omega) ⟨⟨sc97, ai98, al99, az100, hM101, hK102, hI103, hF112, ⟨hR113, hc115, hl116⟩⟩, 1, (by omega), rfl⟩
      ·
        refine w_ldA e106_129 (fun _ => rfl) rfl ?_
        refine w_ldI e106_130 (fun _ => rfl) rfl ?_
        refine w_cv e106_132 (by decide) rfl e92 rfl (Nat.le_of_ble_eq_true rfl) (Nat.le_of_ble_eq_true rfl) (Nat.le_of_ble_eq_true rfl) (by decide) (by decide) (k80x hM hK hJ (by omega)) (fun o117 v118 hq119 => ?_)
        obtain ⟨⟨sc120, ai121, al122, az123, hM124, hK125, hI126, hG127, hE128⟩, rfl⟩ := hq119
        have hs129 : sc120 0 = sc_ 0 := hG127.1 0 rfl
        have hs130 : sc120 1 = sc_ 1 := hG127.1 1 rfl
        have hs131 : sc120 4 = sc_ 4 := hG127.1 4 rfl
        have hs132 : sc120 11 = sc_ 11 := hG127.1 11 rfl
        have hs133 : sc120 18 = sc_ 18 := hG127.1 18 rfl
        have hs134 : sc120 38 = sc_ 38 := hG127.1 38 rfl
        have hF135 : fr [0, 10, 11, 12, 18] [240] 0 68 sc ai al az sc120 ai121 al122 az123 := fr_t hF hG127 rfl rfl (by omega)
        have hR136 := ri2_fr hi0 hK hG127 rfl rfl rfl rfl rfl rfl rfl rfl rfl (by omega)
        have hS137 := sjk_fr hi0.1 hK hG127 rfl rfl
        have hl139 := slp_step hi3 hi2 hK hG127 hE128.2
        have hc138 : ∀ j : Nat, ai121 242 j = ai 242 j := by rw [hE128.1]; exact hi2
        refine w_iinc (A1 := [some (.ref 238), some (.int (vz i1)), some (.int (vz i2)), some (.int (vz x3)), some (.int (vz (x4 + 1)))]) e106_135 rfl (by decide) rfl ?_
        refine w_x e106_138 (fun _ => rfl) ?_
        exact w_sub (A1 := [some (.ref 238), some (.int (vz i1)), some (.int (vz i2)), some (.int (vz x3)), some (.int (vz (x4 + 1)))]) (And.intro rfl (And.intro rfl (And.intro rfl (And.intro rfl (And.intro rfl trivial))))) ((ih.2.2.2) v118 sc120 ai121 al122 az123 x3 (x4 + 1) hM124 hK125 hI126 hF135 hx3 (by omega) hR136 (by omega) hc138 hl139 (by omega))
set_option maxRecDepth 100000 in
set_option maxHeartbeats 4000000 in
theorem c106x {sc : Nat → Int} {ai : Nat → Nat → Int} {al : Nat → Nat → Int64} {az : Nat → Nat → Int32} {v0 vh : vm_H} (hM : tm sc ai al az v0 vh) (hK : tmok ai) (hI : gi sc ai al az) {i1 : Int} (hi_1 : -2147483648 ≤ i1 ∧ i1 < 2147483648) {i2 : Int} (hi_2 : -2147483648 ≤ i2 ∧ i2 < 2147483648) (hR : ri2 sc ai al az) : vm_Rp 3 77 106 [.ref 238, .int (vz i1), .int (vz i2)] vh (fun r v1 => (∃ (sc1 : Nat → Int) (ai1 : Nat → Nat → Int) (al1 : Nat → Nat → Int64) (az1 : Nat → Nat → Int32), tm sc1 ai1 al1 az1 v0 v1 ∧ tmok ai1 ∧ gi sc1 ai1 al1 az1 ∧ fr [0, 10, 11, 12, 18] [240] 0 68 sc ai al az sc1 ai1 al1 az1 ∧ (ri2 sc1 ai1 al1 az1 ∧ (∀ j : Nat, ai1 242 j = ai 242 j) ∧ ∀ i : Nat, i < 16 → slp ai al al1 i)) ∧ ∃ q : Int, ((0 ≤ q ∧ q ≤ 1) ∧ (q = 1 ↔ (0 ≤ i2 ∧ i2 < sc 1 ∧ 0 ≤ i1 ∧ i1 < sc 1))) ∧ r = some (.int (vz q))) := by
  have hF0 : fr [0, 10, 11, 12, 18] [240] 0 68 sc ai al az sc ai al az := fr_0 _ _ _ _ _ _ _ _
  have hn8 := hI.1.1
  refine w_in (m := 2) ?_
  show vm_Wp _ _ _ 0 [some (.ref 238), some (.int (vz i1)), some (.int (vz i2)), none, none] [] _ _
  refine w_ldA e106_0 (fun _ => rfl) rfl ?_
  refine w_kI e106_1 ?_
  have e1 := tm_o hM
  refine w_put e106_2 e1 (Nat.le_of_ble_eq_true rfl) rfl (fun v4 b2 h3 => ?_)
  obtain ⟨sc5, hd7, hM6⟩ : ∃ z, z = u1 sc 0 (0) ∧ tm z ai al az v0 v4 := ⟨_, rfl, tm_ps 0 hM (by omega) b2 h3⟩
  have hs8 : sc5 0 = 0 := by rw [hd7]; exact u1_s
  have hs9 : sc5 1 = sc 1 := by rw [hd7]; exact u1_o (by decide)
  have hs10 : sc5 4 = sc 4 := by rw [hd7]; exact u1_o (by decide)
  have hs11 : sc5 11 = sc 11 := by rw [hd7]; exact u1_o (by decide)
  have hs12 : sc5 18 = sc 18 := by rw [hd7]; exact u1_o (by decide)
  have hs13 : sc5 38 = sc 38 := by rw [hd7]; exact u1_o (by decide)
  have hF14 : fr [0, 10, 11, 12, 18] [240] 0 68 sc ai al az sc5 ai al az := fr_s hF0 hd7 rfl
  have hI15 : gi sc5 ai al az := gi_s hI hd7 (by decide) (by decide) (by decide)
  have hR16 := ri2_fr hR hK (fr_s (X := [0]) (Y := []) (lo := 1) (hi := 0) (fr_0 _ _ _ _ sc ai al az) hd7 rfl) rfl rfl rfl rfl rfl rfl rfl rfl rfl (by omega)
  have hS17 := sjk_fr hR.1 hK (fr_s (X := [0]) (Y := []) (lo := 1) (hi := 0) (fr_0 _ _ _ _ sc ai al az) hd7 rfl) rfl rfl
  refine w_ldI e106_5 (fun _ => rfl) rfl ?_
  refine w_if e106_6 hi_2 (fun (h18 : i2 < 0) => ?_) (fun (h18 : 0 ≤ i2) => ?_)
  ·
    refine w_kI e106_29 ?_
    exact w_rz e106_30 rfl (by omega) ⟨⟨sc5, ai, al, az, hM6, hK, hI15, hF14, ⟨hR16, (fun _ => rfl), (fun _ _ => slp_0)⟩⟩, 0, (by omega), rfl⟩
  ·
    refine w_ldI e106_9 (fun _ => rfl) rfl ?_
    refine w_ldA e106_10 (fun _ => rfl) rfl ?_
    have e19 := tm_o hM6
    refine w_get e106_11 e19 rfl ?_
    refine w_ic e106_14 hi_2 (tm_s hM6 1) (fun (h20 : sc5 1 ≤ i2) => ?_) (fun (h20 : i2 < sc5 1) => ?_)
    ·
      refine w_kI e106_29 ?_
      exact w_rz e106_30 rfl (by omega) ⟨⟨sc5, ai, al, az, hM6, hK, hI15, hF14, ⟨hR16, (fun _ => rfl), (fun _ _ => slp_0)⟩⟩, 0, (by omega), rfl⟩
    ·
      refine w_ldI e106_17 (fun _ => rfl) rfl ?_
      refine w_if e106_18 hi_1 (fun (h21 : i1 < 0) => ?_) (fun (h21 : 0 ≤ i1) => ?_)
      ·
        refine w_kI e106_29 ?_
        exact w_rz e106_30 rfl (by omega) ⟨⟨sc5, ai, al, az, hM6, hK, hI15, hF14, ⟨hR16, (fun _ => rfl), (fun _ _ => slp_0)⟩⟩, 0, (by omega), rfl⟩
      ·
        refine w_ldI e106_21 (fun _ => rfl) rfl ?_
        refine w_ldA e106_22 (fun _ => rfl) rfl ?_
        refine w_get e106_23 e19 rfl ?_
        refine w_ic e106_26 hi_1 (tm_s hM6 1) (fun (h22 : i1 < sc5 1) => ?_) (fun (h22 : sc5 1 ≤ i1) => ?_)
        ·
          refine w_kI e106_31 ?_
          refine w_stI (j := 3) (A1 := [some (.ref 238), some (.int (vz i1)), some (.int (vz i2)), some (.int (vz 0)), none]) e106_32 (fun _ => rfl) (by decide) rfl ?_
          exact w_sub (A1 := [some (.ref 238), some (.int (vz i1)), some (.int (vz i2)), some (.int (vz 0)), none]) (And.intro rfl (And.intro rfl (And.intro rfl (And.intro rfl trivial)))) (((c106x_L (sc := sc) (ai := ai) (al := al) (az := az) (v0 := v0) (i1 := i1) (i2 := i2) hK hI hi_1 hi_2 hR _).1) v4 sc5 0 hM6 hK hI15 hF14 (by omega) hR16 (by obtain ⟨j, h8, h9⟩ := hR.1 i2 (by omega) (by omega); exact ⟨j, by omega, h8, h9⟩) (by omega) (Nat.lt_succ_self _))
        ·
          refine w_kI e106_29 ?_
          exact w_rz e106_30 rfl (by omega) ⟨⟨sc5, ai, al, az, hM6, hK, hI15, hF14, ⟨hR16, (fun _ => rfl), (fun _ _ => slp_0)⟩⟩, 0, (by omega), rfl⟩
