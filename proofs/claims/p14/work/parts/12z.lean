set_option maxRecDepth 100000 in
set_option maxHeartbeats 4000000 in
theorem c102_L {sc : Nat → Int} {ai : Nat → Nat → Int} {al : Nat → Nat → Int64} {az : Nat → Nat → Int32} {v0 : vm_H} (hK0 : tmok ai) (hI : gi sc ai al az) (hR : ri2 sc ai al az) : ∀ N : Nat, (∀ (vh : vm_H) (sc_ : Nat → Int) (x1 : Int) (x2 : Int), (tm sc_ ai al az v0 vh) → (tmok ai) → (gi sc_ ai al az) → (fr [0, 10, 11, 12, 13, 14, 15, 16, 18, 27, 28, 38, 40, 41, 42] [252, 253, 254, 255, 256, 257, 258, 259, 260, 261] 16 70 sc ai al az sc_ ai al az) → (0 ≤ x1 ∧ x1 ≤ x2) → (0 ≤ x2 ∧ x2 ≤ 16) → (ri2 sc_ ai al az) → (sc_ 4 = sc 4) → ((300000 + 16 - x2 : Int).toNat < N) → vm_Wp 7 181 102 9 [some (.ref 238), some (.int (vz x1)), some (.int (vz x2)), none, none] [] vh (vq_P 102 (fun r v1 => (∃ (sc1 : Nat → Int) (ai1 : Nat → Nat → Int) (al1 : Nat → Nat → Int64) (az1 : Nat → Nat → Int32), tm sc1 ai1 al1 az1 v0 v1 ∧ tmok ai1 ∧ gi sc1 ai1 al1 az1 ∧ fr [0, 10, 11, 12, 13, 14, 15, 16, 18, 27, 28, 38, 40, 41, 42] [252, 253, 254, 255, 256, 257, 258, 259, 260, 261] 16 70 sc ai al az sc1 ai1 al1 az1 ∧ (ri2 sc1 ai1 al1 az1)) ∧ ∃ q : Int, (-1 ≤ q ∧ q ≤ 3) ∧ r = some (.int (vz q))))) ∧ (∀ (vh : vm_H) (sc_ : Nat → Int) (ai_ : Nat → Nat → Int) (al_ : Nat → Nat → Int64) (az_ : Nat → Nat → Int32) (x2 : Int) (x3 : Int), (tm sc_ ai_ al_ az_ v0 vh) → (tmok ai_) → (gi sc_ ai_ al_ az_) → (fr [0, 10, 11, 12, 13, 14, 15, 16, 18, 27, 28, 38, 40, 41, 42] [252, 253, 254, 255, 256, 257, 258, 259, 260, 261] 16 70 sc ai al az sc_ ai_ al_ az_) → (-1 ≤ x2 ∧ x2 < 16 + sc_ 42) → (0 ≤ x3 ∧ x3 ≤ 16) → (ri2 sc_ ai_ al_ az_) → (rwx sc_ ai_ al_ az_ (sc_ 42) x2) → (x2 < 0 ∨ 16 ≤ x2) → (sc_ 4 = sc 4 ∧ sc_ 14 = 0 ∧ sc_ 16 = 0 ∧ 0 ≤ sc_ 42 ∧ sc_ 42 ≤ x3 ∧ sc_ 11 = 0 ∧ sc_ 18 = 0) → ((200000 + 16 - x3 : Int).toNat < N) → vm_Wp 7 181 102 83 [some (.ref 238), none, some (.int (vz x2)), some (.int (vz x3)), none] [] vh (vq_P 102 (fun r v1 => (∃ (sc1 : Nat → Int) (ai1 : Nat → Nat → Int) (al1 : Nat → Nat → Int64) (az1 : Nat → Nat → Int32), tm sc1 ai1 al1 az1 v0 v1 ∧ tmok ai1 ∧ gi sc1 ai1 al1 az1 ∧ fr [0, 10, 11, 12, 13, 14, 15, 16, 18, 27, 28, 38, 40, 41, 42] [252, 253, 254, 255, 256, 257, 258, 259, 260, 261] 16 70 sc ai al az sc1 ai1 al1 az1 ∧ (ri2 sc1 ai1 al1 az1)) ∧ ∃ q : Int, (-1 ≤ q ∧ q ≤ 3) ∧ r = some (.int (vz q))))) ∧ (∀ (vh : vm_H) (sc_ : Nat → Int) (ai_ : Nat → Nat → Int) (al_ : Nat → Nat → Int64) (az_ : Nat → Nat → Int32) (x3 : Int), (tm sc_ ai_ al_ az_ v0 vh) → (tmok ai_) → (gi sc_ ai_ al_ az_) → (fr [0, 10, 11, 12, 13, 14, 15, 16, 18, 27, 28, 38, 40, 41, 42] [252, 253, 254, 255, 256, 257, 258, 259, 260, 261] 16 70 sc ai al az sc_ ai_ al_ az_) → (0 ≤ x3 ∧ x3 ≤ 3) → (ri2 sc_ ai_ al_ az_) → (rws sc_ ai_ al_ az_ (sc_ 42)) → (x3 = 3 ∨ bs sc_ ai_ al_ az_ (sc_ 40) 56) → ((x3 = 3 ∨ (0 ≤ sc_ 40 ∧ sc_ 40 ≤ 8)) ∧ (0 ≤ sc_ 42 ∧ sc_ 42 ≤ 40) ∧ (0 ≤ sc_ 16 ∧ sc_ 16 ≤ 1000) ∧ (0 ≤ sc_ 14 ∧ sc_ 14 ≤ 12) ∧ sc_ 11 = 0 ∧ sc_ 18 = 0) → ((100000 + 12 - sc_ 14 : Int).toNat < N) → vm_Wp 7 181 102 196 [some (.ref 238), none, none, some (.int (vz x3)), none] [] vh (vq_P 102 (fun r v1 => (∃ (sc1 : Nat → Int) (ai1 : Nat → Nat → Int) (al1 : Nat → Nat → Int64) (az1 : Nat → Nat → Int32), tm sc1 ai1 al1 az1 v0 v1 ∧ tmok ai1 ∧ gi sc1 ai1 al1 az1 ∧ fr [0, 10, 11, 12, 13, 14, 15, 16, 18, 27, 28, 38, 40, 41, 42] [252, 253, 254, 255, 256, 257, 258, 259, 260, 261] 16 70 sc ai al az sc1 ai1 al1 az1 ∧ (ri2 sc1 ai1 al1 az1)) ∧ ∃ q : Int, (-1 ≤ q ∧ q ≤ 3) ∧ r = some (.int (vz q))))) ∧ (∀ (vh : vm_H) (sc_ : Nat → Int) (ai_ : Nat → Nat → Int) (al_ : Nat → Nat → Int64) (az_ : Nat → Nat → Int32) (x3 : Int) (x4 : Int), (tm sc_ ai_ al_ az_ v0 vh) → (tmok ai_) → (gi sc_ ai_ al_ az_) → (fr [0, 10, 11, 12, 13, 14, 15, 16, 18, 27, 28, 38, 40, 41, 42] [252, 253, 254, 255, 256, 257, 258, 259, 260, 261] 16 70 sc ai al az sc_ ai_ al_ az_) → (x3 = 1) → (0 ≤ x4 ∧ x4 ≤ sc_ 40) → (sj sc_ ai_) → (bs sc_ ai_ al_ az_ (sc_ 40) 56) → (mb sc_ ai_ al_ az_ x4) → (sc_ 11 = sc_ 40 ∧ 0 ≤ sc_ 40 ∧ sc_ 40 ≤ 8 ∧ sc_ 18 = 0) → ((100 - x4 : Int).toNat < N) → vm_Wp 7 181 102 247 [some (.ref 238), none, none, some (.int (vz x3)), some (.int (vz x4))] [] vh (vq_P 102 (fun r v1 => (∃ (sc1 : Nat → Int) (ai1 : Nat → Nat → Int) (al1 : Nat → Nat → Int64) (az1 : Nat → Nat → Int32), tm sc1 ai1 al1 az1 v0 v1 ∧ tmok ai1 ∧ gi sc1 ai1 al1 az1 ∧ fr [0, 10, 11, 12, 13, 14, 15, 16, 18, 27, 28, 38, 40, 41, 42] [252, 253, 254, 255, 256, 257, 258, 259, 260, 261] 16 70 sc ai al az sc1 ai1 al1 az1 ∧ (ri2 sc1 ai1 al1 az1)) ∧ ∃ q : Int, (-1 ≤ q ∧ q ≤ 3) ∧ r = some (.int (vz q))))) := by
  have hF0 : fr [0, 10, 11, 12, 13, 14, 15, 16, 18, 27, 28, 38, 40, 41, 42] [252, 253, 254, 255, 256, 257, 258, 259, 260, 261] 16 70 sc ai al az sc ai al az := fr_0 _ _ _ _ _ _ _ _
  intro N
  induction N with
  | zero => exact ⟨by intros; omega, by intros; omega, by intros; omega, by intros; omega⟩
  | succ N ih =>
    refine ⟨?_, ?_, ?_, ?_⟩
    ·
      intro vh sc_ x1 x2 hM hK hJ hF hx1 hx2 hi0 hi1 hN
      have hn8 := hJ.1.1
      refine w_ldI e102_9 (fun _ => rfl) rfl ?_
      refine w_ldA e102_10 (fun _ => rfl) rfl ?_
      have e23 := tm_o hM
      refine w_get e102_11 e23 rfl ?_
      refine w_ic e102_14 (by omega) (tm_s hM 4) (fun (h24 : sc_ 4 ≤ x2) => ?_) (fun (h24 : x2 < sc_ 4) => ?_)
      ·
        refine w_ldI e102_49 (fun _ => rfl) rfl ?_
        refine w_if e102_50 (by omega) (fun (h25 : x1 ≠ 0) => ?_) (fun (h25 : x1 = 0) => ?_)
        ·
          refine w_ldA e102_55 (fun _ => rfl) rfl ?_
          refine w_cv e102_56 (by decide) rfl e23 rfl (Nat.le_of_ble_eq_true rfl) (Nat.le_of_ble_eq_true rfl) (Nat.le_of_ble_eq_true rfl) (by decide) (by decide) (k101 hM hK hJ) (fun o26 v27 hq28 => ?_)
          obtain ⟨⟨sc29, hM33, hI35, hG36, hE37⟩, rfl⟩ := hq28
          have hs38 : sc29 0 = sc_ 0 := hG36.1 0 rfl
          have hs39 : sc29 1 = sc_ 1 := hG36.1 1 rfl
          have hs40 : sc29 4 = sc_ 4 := hG36.1 4 rfl
          have hs41 : sc29 14 = sc_ 14 := hG36.1 14 rfl
          have hs42 : sc29 16 = sc_ 16 := hG36.1 16 rfl
          have hs43 : sc29 38 = sc_ 38 := hG36.1 38 rfl
          have hs44 : sc29 40 = sc_ 40 := hG36.1 40 rfl
          have hs45 : sc29 41 = sc_ 41 := hG36.1 41 rfl
          have hs46 : sc29 42 = sc_ 42 := hG36.1 42 rfl
          have hF47 : fr [0, 10, 11, 12, 13, 14, 15, 16, 18, 27, 28, 38, 40, 41, 42] [252, 253, 254, 255, 256, 257, 258, 259, 260, 261] 16 70 sc ai al az sc29 ai al az := fr_t hF hG36 rfl rfl (by omega)
          have hS48 := sjk_fr hi0.1 hK hG36 rfl rfl
          have hf49 := hE37.1
          have hf50 := hE37.2
          have hR51 : ri2 sc29 ai al az := ri2_0 hS48 (by omega) (by omega)
          refine w_ldA e102_59 (fun _ => rfl) rfl ?_
          refine w_kI e102_60 ?_
          have e52 := tm_o hM33
          refine w_put e102_61 e52 (Nat.le_of_ble_eq_true rfl) (vz_okz (by omega)) (fun v55 b53 h54 => ?_)
          obtain ⟨sc56, hd58, hM57⟩ : ∃ z, z = u1 sc29 13 (0) ∧ tm z ai al az v0 v55 := ⟨_, rfl, tm_ps 13 hM33 (by omega) b53 h54⟩
          have hs59 : sc56 0 = sc29 0 := by rw [hd58]; exact u1_o (by decide)
          have hs60 : sc56 1 = sc29 1 := by rw [hd58]; exact u1_o (by decide)
          have hs61 : sc56 4 = sc29 4 := by rw [hd58]; exact u1_o (by decide)
          have hs62 : sc56 11 = sc29 11 := by rw [hd58]; exact u1_o (by decide)
          have hs63 : sc56 14 = sc29 14 := by rw [hd58]; exact u1_o (by decide)
          have hs64 : sc56 16 = sc29 16 := by rw [hd58]; exact u1_o (by decide)
          have hs65 : sc56 18 = sc29 18 := by rw [hd58]; exact u1_o (by decide)
          have hs66 : sc56 38 = sc29 38 := by rw [hd58]; exact u1_o (by decide)
          have hs67 : sc56 40 = sc29 40 := by rw [hd58]; exact u1_o (by decide)
          have hs68 : sc56 41 = sc29 41 := by rw [hd58]; exact u1_o (by decide)
          have hs69 : sc56 42 = sc29 42 := by rw [hd58]; exact u1_o (by decide)
          have hF70 : fr [0, 10, 11, 12, 13, 14, 15, 16, 18, 27, 28, 38, 40, 41, 42] [252, 253, 254, 255, 256, 257, 258, 259, 260, 261] 16 70 sc ai al az sc56 ai al az := fr_s hF47 hd58 rfl
          have hI71 : gi sc56 ai al az := gi_s hI35 hd58 (by decide) (by decide) (by decide)
          have hR72 := ri2_fr hR51 hK (fr_s (X := [13]) (Y := []) (lo := 1) (hi := 0) (fr_0 _ _ _ _ sc29 ai al az) hd58 rfl) rfl rfl rfl rfl rfl rfl rfl rfl rfl (by omega)
          have hS73 := sjk_fr hS48 hK (fr_s (X := [13]) (Y := []) (lo := 1) (hi := 0) (fr_0 _ _ _ _ sc29 ai al az) hd58 rfl) rfl rfl
          refine w_ldA e102_64 (fun _ => rfl) rfl ?_
          refine w_kI e102_65 ?_
          have e74 := tm_o hM57
          refine w_put e102_66 e74 (Nat.le_of_ble_eq_true rfl) rfl (fun v77 b75 h76 => ?_)
          obtain ⟨sc78, hd80, hM79⟩ : ∃ z, z = u1 sc56 14 (0) ∧ tm z ai al az v0 v77 := ⟨_, rfl, tm_ps 14 hM57 (by omega) b75 h76⟩
          have hs81 : sc78 0 = sc56 0 := by rw [hd80]; exact u1_o (by decide)
          have hs82 : sc78 1 = sc56 1 := by rw [hd80]; exact u1_o (by decide)
          have hs83 : sc78 4 = sc56 4 := by rw [hd80]; exact u1_o (by decide)
          have hs84 : sc78 11 = sc56 11 := by rw [hd80]; exact u1_o (by decide)
          have hs85 : sc78 14 = 0 := by rw [hd80]; exact u1_s
          have hs86 : sc78 16 = sc56 16 := by rw [hd80]; exact u1_o (by decide)
          have hs87 : sc78 18 = sc56 18 := by rw [hd80]; exact u1_o (by decide)
          have hs88 : sc78 38 = sc56 38 := by rw [hd80]; exact u1_o (by decide)
          have hs89 : sc78 40 = sc56 40 := by rw [hd80]; exact u1_o (by decide)
          have hs90 : sc78 41 = sc56 41 := by rw [hd80]; exact u1_o (by decide)
          have hs91 : sc78 42 = sc56 42 := by rw [hd80]; exact u1_o (by decide)
          have hF92 : fr [0, 10, 11, 12, 13, 14, 15, 16, 18, 27, 28, 38, 40, 41, 42] [252, 253, 254, 255, 256, 257, 258, 259, 260, 261] 16 70 sc ai al az sc78 ai al az := fr_s hF70 hd80 rfl
          have hI93 : gi sc78 ai al az := gi_s hI71 hd80 (by decide) (by decide) (by decide)
          have hR94 := ri2_fr hR72 hK (fr_s (X := [14]) (Y := []) (lo := 1) (hi := 0) (fr_0 _ _ _ _ sc56 ai al az) hd80 rfl) rfl rfl rfl rfl rfl rfl rfl rfl rfl (by omega)
          have hS95 := sjk_fr hS73 hK (fr_s (X := [14]) (Y := []) (lo := 1) (hi := 0) (fr_0 _ _ _ _ sc56 ai al az) hd80 rfl) rfl rfl
          refine w_ldA e102_69 (fun _ => rfl) rfl ?_
          refine w_kI e102_70 ?_
          have e96 := tm_o hM79
          refine w_put e102_71 e96 (Nat.le_of_ble_eq_true rfl) rfl (fun v99 b97 h98 => ?_)
          obtain ⟨sc100, hd102, hM101⟩ : ∃ z, z = u1 sc78 16 (0) ∧ tm z ai al az v0 v99 := ⟨_, rfl, tm_ps 16 hM79 (by omega) b97 h98⟩
          have hs103 : sc100 0 = sc78 0 := by rw [hd102]; exact u1_o (by decide)
          have hs104 : sc100 1 = sc78 1 := by rw [hd102]; exact u1_o (by decide)
          have hs105 : sc100 4 = sc78 4 := by rw [hd102]; exact u1_o (by decide)
          have hs106 : sc100 11 = sc78 11 := by rw [hd102]; exact u1_o (by decide)
          have hs107 : sc100 14 = sc78 14 := by rw [hd102]; exact u1_o (by decide)
          have hs108 : sc100 16 = 0 := by rw [hd102]; exact u1_s
          have hs109 : sc100 18 = sc78 18 := by rw [hd102]; exact u1_o (by decide)
          have hs110 : sc100 38 = sc78 38 := by rw [hd102]; exact u1_o (by decide)
          have hs111 : sc100 40 = sc78 40 := by rw [hd102]; exact u1_o (by decide)
          have hs112 : sc100 41 = sc78 41 := by rw [hd102]; exact u1_o (by decide)
          have hs113 : sc100 42 = sc78 42 := by rw [hd102]; exact u1_o (by decide)
          have hF114 : fr [0, 10, 11, 12, 13, 14, 15, 16, 18, 27, 28, 38, 40, 41, 42] [252, 253, 254, 255, 256, 257, 258, 259, 260, 261] 16 70 sc ai al az sc100 ai al az := fr_s hF92 hd102 rfl
          have hI115 : gi sc100 ai al az := gi_s hI93 hd102 (by decide) (by decide) (by decide)
          have hR116 := ri2_fr hR94 hK (fr_s (X := [16]) (Y := []) (lo := 1) (hi := 0) (fr_0 _ _ _ _ sc78 ai al az) hd102 rfl) rfl rfl rfl rfl rfl rfl rfl rfl rfl (by omega)
          have hS117 := sjk_fr hS95 hK (fr_s (X := [16]) (Y := []) (lo := 1) (hi := 0) (fr_0 _ _ _ _ sc78 ai al az) hd102 rfl) rfl rfl
          refine w_ldA e102_74 (fun _ => rfl) rfl ?_
          refine w_kI e102_75 ?_
          have e118 := tm_o hM101
          refine w_put e102_76 e118 (Nat.le_of_ble_eq_true rfl) rfl (fun v121 b119 h120 => ?_)
          obtain ⟨sc122, hd124, hM123⟩ : ∃ z, z = u1 sc100 42 (0) ∧ tm z ai al az v0 v121 := ⟨_, rfl, tm_ps 42 hM101 (by omega) b119 h120⟩
          have hs125 : sc122 0 = sc100 0 := by rw [hd124]; exact u1_o (by decide)
          have hs126 : sc122 1 = sc100 1 := by rw [hd124]; exact u1_o (by decide)
          have hs127 : sc122 4 = sc100 4 := by rw [hd124]; exact u1_o (by decide)
          have hs128 : sc122 11 = sc100 11 := by rw [hd124]; exact u1_o (by decide)
          have hs129 : sc122 14 = sc100 14 := by rw [hd124]; exact u1_o (by decide)
          have hs130 : sc122 16 = sc100 16 := by rw [hd124]; exact u1_o (by decide)
          have hs131 : sc122 18 = sc100 18 := by rw [hd124]; exact u1_o (by decide)
          have hs132 : sc122 38 = sc100 38 := by rw [hd124]; exact u1_o (by decide)
          have hs133 : sc122 40 = sc100 40 := by rw [hd124]; exact u1_o (by decide)
          have hs134 : sc122 41 = sc100 41 := by rw [hd124]; exact u1_o (by decide)
          have hs135 : sc122 42 = 0 := by rw [hd124]; exact u1_s
          have hF136 : fr [0, 10, 11, 12, 13, 14, 15, 16, 18, 27, 28, 38, 40, 41, 42] [252, 253, 254, 255, 256, 257, 258, 259, 260, 261] 16 70 sc ai al az sc122 ai al az := fr_s hF114 hd124 rfl
          have hI137 : gi sc122 ai al az := gi_s hI115 hd124 (by decide) (by decide) (by decide)
          have hR138 := ri2_fr hR116 hK (fr_s (X := [42]) (Y := []) (lo := 1) (hi := 0) (fr_0 _ _ _ _ sc100 ai al az) hd124 rfl) rfl rfl rfl rfl rfl rfl rfl rfl rfl (by omega)
          have hS139 := sjk_fr hS117 hK (fr_s (X := [42]) (Y := []) (lo := 1) (hi := 0) (fr_0 _ _ _ _ sc100 ai al az) hd124 rfl) rfl rfl
          refine w_kI e102_79 ?_
          refine w_stI (j := 2) (A1 := [some (.ref 238), some (.int (vz x1)), some (.int (vz (-1))), none, none]) e102_80 (fun _ => rfl) (by decide) rfl ?_
          refine w_kI e102_81 ?_
          refine w_stI (j := 3) (A1 := [some (.ref 238), some (.int (vz x1)), some (.int (vz (-1))), some (.int (vz 0)), none]) e102_82 (fun _ => rfl) (by decide) rfl ?_
          exact w_sub (A1 := [some (.ref 238), none, some (.int (vz (-1))), some (.int (vz 0)), none]) (And.intro rfl (And.intro rfl (And.intro rfl trivial))) ((ih.2.1) v121 sc122 ai al az (-1) 0 hM123 hK hI137 hF136 (by omega) (by omega) hR138 (Or.inr (fun r h8 h9 => by omega)) (by omega) (by omega) (by omega))
        ·
          refine w_kI e102_53 ?_
          exact w_ri e102_54 rfl ⟨⟨sc_, ai, al, az, hM, hK, hJ, hF, hi0⟩, -1, (by omega), rfl⟩
      ·
        refine w_ldI e102_17 (fun _ => rfl) rfl ?_
        refine w_ldA e102_18 (fun _ => rfl) rfl ?_
        refine w_get e102_19 e23 rfl ?_
        refine w_ldI e102_22 (fun _ => rfl) rfl ?_
        have e140 := tm_z hM (a := 241) (n := 16) rfl
        refine w_zldO e102_23 e140 (by omega) (by omega) (by decide) (fun q141 h142 h143 => ?_)
        refine w_if e102_24 h142 (fun (h144 : q141 = 0) => ?_) (fun (h144 : q141 ≠ 0) => ?_)
        ·
          refine w_kI e102_40 ?_
          refine w_iadd e102_41 ?_
          refine w_stI (j := 1) (A1 := [some (.ref 238), some (.int (vz (x1 + 0))), some (.int (vz x2)), none, none]) e102_42 (fun _ => rfl) (by decide) rfl ?_
          refine w_iinc (A1 := [some (.ref 238), some (.int (vz (x1 + 0))), some (.int (vz (x2 + 1))), none, none]) e102_43 rfl (by decide) rfl ?_
          refine w_x e102_46 (fun _ => rfl) ?_
          exact w_sub (A1 := [some (.ref 238), some (.int (vz (x1 + 0))), some (.int (vz (x2 + 1))), none, none]) (And.intro rfl (And.intro rfl (And.intro rfl trivial))) ((ih.1) vh sc_ (x1 + 0) (x2 + 1) hM hK hJ hF (by omega) (by omega) hi0 (by omega) (by omega))
        ·
          refine w_ldA e102_27 (fun _ => rfl) rfl ?_
          refine w_get e102_28 e23 rfl ?_
          refine w_ldI e102_31 (fun _ => rfl) rfl ?_
          have e145 := tm_i hM (a := 242) (n := 72) rfl
          refine w_ald e102_32 e145 (by omega) (by omega) (by decide) ?_
          show vm_Wp _ _ _ 33 _ [.int (vz (ai 242 (x2).toNat)), .int (vz x1)] _ _
          have hk146 := hK.1 (x2).toNat
          refine w_if e102_33 (tm_r hM 242 (x2).toNat) (fun (h147 : ai 242 (x2).toNat ≤ 0) => ?_) (fun (h147 : 0 < ai 242 (x2).toNat) => ?_)
          ·
            refine w_kI e102_40 ?_
            refine w_iadd e102_41 ?_
            refine w_stI (j := 1) (A1 := [some (.ref 238), some (.int (vz (x1 + 0))), some (.int (vz x2)), none, none]) e102_42 (fun _ => rfl) (by decide) rfl ?_
            refine w_iinc (A1 := [some (.ref 238), some (.int (vz (x1 + 0))), some (.int (vz (x2 + 1))), none, none]) e102_43 rfl (by decide) rfl ?_
            refine w_x e102_46 (fun _ => rfl) ?_
            exact w_sub (A1 := [some (.ref 238), some (.int (vz (x1 + 0))), some (.int (vz (x2 + 1))), none, none]) (And.intro rfl (And.intro rfl (And.intro rfl trivial))) ((ih.1) vh sc_ (x1 + 0) (x2 + 1) hM hK hJ hF (by omega) (by omega) hi0 (by omega) (by omega))
          ·
            refine w_kI e102_36 ?_
            refine w_x e102_37 (fun _ => rfl) ?_
            refine w_iadd e102_41 ?_
            refine w_stI (j := 1) (A1 := [some (.ref 238), some (.int (vz (x1 + 1))), some (.int (vz x2)), none, none]) e102_42 (fun _ => rfl) (by decide) rfl ?_
            refine w_iinc (A1 := [some (.ref 238), some (.int (vz (x1 + 1))), some (.int (vz (x2 + 1))), none, none]) e102_43 rfl (by decide) rfl ?_
            refine w_x e102_46 (fun _ => rfl) ?_
            exact w_sub (A1 := [some (.ref 238), some (.int (vz (x1 + 1))), some (.int (vz (x2 + 1))), none, none]) (And.intro rfl (And.intro rfl (And.intro rfl trivial))) ((ih.1) vh sc_ (x1 + 1) (x2 + 1) hM hK hJ hF (by omega) (by omega) hi0 (by omega) (by omega))
    ·
      intro vh sc_ ai_ al_ az_ x2 x3 hM hK hJ hF hx2 hx3 hi0 hi1 hi2 hi3 hN
      have hn8 := hJ.1.1
      refine w_ldI e102_83 (fun _ => rfl) rfl ?_
      refine w_ldA e102_84 (fun _ => rfl) rfl ?_
      have e148 := tm_o hM
      refine w_get e102_85 e148 rfl ?_
      refine w_ic e102_88 (by omega) (tm_s hM 4) (fun (h149 : sc_ 4 ≤ x3) => ?_) (fun (h149 : x3 < sc_ 4) => ?_)
      ·
        refine w_ldA e102_175 (fun _ => rfl) rfl ?_
        refine w_ldA e102_176 (fun _ => rfl) rfl ?_
        refine w_get e102_177 e148 rfl ?_
        refine w_put e102_180 e148 (Nat.le_of_ble_eq_true rfl) rfl (fun v152 b150 h151 => ?_)
        obtain ⟨sc153, hd155, hM154⟩ : ∃ z, z = u1 sc_ 15 (sc_ 42) ∧ tm z ai_ al_ az_ v0 v152 := ⟨_, rfl, tm_ps 15 hM (tm_s hM 42) b150 h151⟩
        have hs156 : sc153 0 = sc_ 0 := by rw [hd155]; exact u1_o (by decide)
        have hs157 : sc153 1 = sc_ 1 := by rw [hd155]; exact u1_o (by decide)
        have hs158 : sc153 4 = sc_ 4 := by rw [hd155]; exact u1_o (by decide)
        have hs159 : sc153 11 = sc_ 11 := by rw [hd155]; exact u1_o (by decide)
        have hs160 : sc153 14 = sc_ 14 := by rw [hd155]; exact u1_o (by decide)
        have hs161 : sc153 16 = sc_ 16 := by rw [hd155]; exact u1_o (by decide)
        have hs162 : sc153 18 = sc_ 18 := by rw [hd155]; exact u1_o (by decide)
        have hs163 : sc153 38 = sc_ 38 := by rw [hd155]; exact u1_o (by decide)
        have hs164 : sc153 40 = sc_ 40 := by rw [hd155]; exact u1_o (by decide)
        have hs165 : sc153 41 = sc_ 41 := by rw [hd155]; exact u1_o (by decide)
        have hs166 : sc153 42 = sc_ 42 := by rw [hd155]; exact u1_o (by decide)
        have hF167 : fr [0, 10, 11, 12, 13, 14, 15, 16, 18, 27, 28, 38, 40, 41, 42] [252, 253, 254, 255, 256, 257, 258, 259, 260, 261] 16 70 sc ai al az sc153 ai_ al_ az_ := fr_s hF hd155 rfl
        have hI168 : gi sc153 ai_ al_ az_ := gi_s hJ hd155 (by decide) (by decide) (by decide)
        have hR169 := ri2_fr hi0 hK (fr_s (X := [15]) (Y := []) (lo := 1) (hi := 0) (fr_0 _ _ _ _ sc_ ai_ al_ az_) hd155 rfl) rfl rfl rfl rfl rfl rfl rfl rfl rfl (by omega)
        have hS170 := sjk_fr hi0.1 hK (fr_s (X := [15]) (Y := []) (lo := 1) (hi := 0) (fr_0 _ _ _ _ sc_ ai_ al_ az_) hd155 rfl) rfl rfl
        have hW171 := rwx_fr hi1 hK (fr_s (X := [15]) (Y := []) (lo := 1) (hi := 0) (fr_0 _ _ _ _ sc_ ai_ al_ az_) hd155 rfl) rfl rfl rfl (by omega)
        refine w_ldI e102_183 (fun _ => rfl) rfl ?_
        refine w_if e102_184 (by omega) (fun (h172 : x2 < 0) => ?_) (fun (h172 : 0 ≤ x2) => ?_)
        ·
          refine w_kI e102_194 ?_
          refine w_stI (j := 3) (A1 := [some (.ref 238), none, some (.int (vz x2)), some (.int (vz 3)), none]) e102_195 (fun _ => rfl) (by decide) rfl ?_
          exact w_sub (A1 := [some (.ref 238), none, none, some (.int (vz 3)), none]) (And.intro rfl (And.intro rfl trivial)) ((ih.2.2.1) v152 sc153 ai_ al_ az_ 3 hM154 hK hI168 hF167 (by omega) hR169 (rws_n (hW171.resolve_left (by omega)) (by omega)) (Or.inl rfl) (by omega) (by omega))
        ·
          refine w_ldA e102_187 (fun _ => rfl) rfl ?_
          refine w_ldI e102_188 (fun _ => rfl) rfl ?_
          have e173 := tm_o hM154
          refine w_cv e102_189 (by decide) rfl e173 rfl (Nat.le_of_ble_eq_true rfl) (Nat.le_of_ble_eq_true rfl) (Nat.le_of_ble_eq_true rfl) (by decide) (by decide) (c99 hM154 hK hI168 (by omega)) (fun o174 v175 hq176 => ?_)
          obtain ⟨⟨sc177, ai178, al179, az180, hM181, hK182, hI183, hG184, hE185⟩, rfl⟩ := hq176
          have hs186 : sc177 0 = sc153 0 := hG184.1 0 rfl
          have hs187 : sc177 1 = sc153 1 := hG184.1 1 rfl
          have hs188 : sc177 4 = sc153 4 := hG184.1 4 rfl
          have hs189 : sc177 11 = sc153 11 := hG184.1 11 rfl
          have hs190 : sc177 14 = sc153 14 := hG184.1 14 rfl
          have hs191 : sc177 16 = sc153 16 := hG184.1 16 rfl
          have hs192 : sc177 18 = sc153 18 := hG184.1 18 rfl
          have hs193 : sc177 38 = sc153 38 := hG184.1 38 rfl
          have hs194 : sc177 40 = sc153 40 := hG184.1 40 rfl
          have hs195 : sc177 41 = sc153 41 := hG184.1 41 rfl
          have hs196 : sc177 42 = sc153 42 := hG184.1 42 rfl
          have hF197 : fr [0, 10, 11, 12, 13, 14, 15, 16, 18, 27, 28, 38, 40, 41, 42] [252, 253, 254, 255, 256, 257, 258, 259, 260, 261] 16 70 sc ai al az sc177 ai178 al179 az180 := fr_t hF167 hG184 rfl rfl (by omega)
          have hR198 := ri2_fr hR169 hK hG184 rfl rfl rfl rfl rfl rfl rfl rfl rfl (by omega)
          have hS199 := sjk_fr hS170 hK hG184 rfl rfl
          have hW200 := rwx_fr hW171 hK hG184 rfl rfl rfl (by omega)
          refine w_kI e102_192 ?_
          exact w_ri e102_193 rfl ⟨⟨sc177, ai178, al179, az180, hM181, hK182, hI183, hF197, hR198⟩, 0, (by omega), rfl⟩
      ·
        refine w_ldA e102_91 (fun _ => rfl) rfl ?_
        refine w_get e102_92 e148 rfl ?_
        refine w_ldI e102_95 (fun _ => rfl) rfl ?_
        have e201 := tm_z hM (a := 241) (n := 16) rfl
        refine w_zldO e102_96 e201 (by omega) (by omega) (by decide) (fun q202 h203 h204 => ?_)
        refine w_if e102_97 h203 (fun (h205 : q202 = 0) => ?_) (fun (h205 : q202 ≠ 0) => ?_)
        ·
          refine w_iinc (A1 := [some (.ref 238), none, some (.int (vz x2)), some (.int (vz (x3 + 1))), none]) e102_169 rfl (by decide) rfl ?_
          refine w_x e102_172 (fun _ => rfl) ?_
          exact w_sub (A1 := [some (.ref 238), none, some (.int (vz x2)), some (.int (vz (x3 + 1))), none]) (And.intro rfl (And.intro rfl (And.intro rfl trivial))) ((ih.2.1) vh sc_ ai_ al_ az_ x2 (x3 + 1) hM hK hJ hF (by omega) (by omega) hi0 hi1 (by omega) (by omega) (by omega))
        ·
          refine w_ldA e102_100 (fun _ => rfl) rfl ?_
          refine w_get e102_101 e148 rfl ?_
          refine w_ldI e102_104 (fun _ => rfl) rfl ?_
          have e206 := tm_i hM (a := 242) (n := 72) rfl
          refine w_ald e102_105 e206 (by omega) (by omega) (by decide) ?_
          show vm_Wp _ _ _ 106 _ [.int (vz (ai_ 242 (x3).toNat))] _ _
          have hk207 := hK.1 (x3).toNat
          refine w_if e102_106 (tm_r hM 242 (x3).toNat) (fun (h208 : ai_ 242 (x3).toNat ≤ 0) => ?_) (fun (h208 : 0 < ai_ 242 (x3).toNat) => ?_)
          ·
            refine w_iinc (A1 := [some (.ref 238), none, some (.int (vz x2)), some (.int (vz (x3 + 1))), none]) e102_169 rfl (by decide) rfl ?_
            refine w_x e102_172 (fun _ => rfl) ?_
            exact w_sub (A1 := [some (.ref 238), none, some (.int (vz x2)), some (.int (vz (x3 + 1))), none]) (And.intro rfl (And.intro rfl (And.intro rfl trivial))) ((ih.2.1) vh sc_ ai_ al_ az_ x2 (x3 + 1) hM hK hJ hF (by omega) (by omega) hi0 hi1 (by omega) (by omega) (by omega))
          ·
            refine w_ldA e102_109 (fun _ => rfl) rfl ?_
            refine w_ldI e102_110 (fun _ => rfl) rfl ?_
            refine w_kB e102_111 rfl ?_
            refine w_ldA e102_113 (fun _ => rfl) rfl ?_
            refine w_get e102_114 e148 rfl ?_
            refine w_iadd e102_117 ?_
            refine w_cv e102_118 (by decide) rfl e148 rfl (Nat.le_of_ble_eq_true rfl) (Nat.le_of_ble_eq_true rfl) (Nat.le_of_ble_eq_true rfl) (by decide) (by decide) (k81 hM hK hJ (by omega) (by omega) (by omega)) (fun o209 v210 hq211 => ?_)
            obtain ⟨⟨sc212, ai213, al214, az215, hM216, hK217, hI218, hG219, hE220⟩, rfl⟩ := hq211
            have hs221 : sc212 0 = sc_ 0 := hG219.1 0 rfl
            have hs222 : sc212 1 = sc_ 1 := hG219.1 1 rfl
            have hs223 : sc212 4 = sc_ 4 := hG219.1 4 rfl
            have hs224 : sc212 11 = sc_ 11 := hG219.1 11 rfl
            have hs225 : sc212 14 = sc_ 14 := hG219.1 14 rfl
            have hs226 : sc212 16 = sc_ 16 := hG219.1 16 rfl
            have hs227 : sc212 18 = sc_ 18 := hG219.1 18 rfl
            have hs228 : sc212 38 = sc_ 38 := hG219.1 38 rfl
            have hs229 : sc212 40 = sc_ 40 := hG219.1 40 rfl
            have hs230 : sc212 41 = sc_ 41 := hG219.1 41 rfl
            have hs231 : sc212 42 = sc_ 42 := hG219.1 42 rfl
            have hF232 : fr [0, 10, 11, 12, 13, 14, 15, 16, 18, 27, 28, 38, 40, 41, 42] [252, 253, 254, 255, 256, 257, 258, 259, 260, 261] 16 70 sc ai al az sc212 ai213 al214 az215 := fr_t hF hG219 rfl rfl (by omega)
            have hR233 := ri2_fr hi0 hK hG219 rfl rfl rfl rfl rfl rfl rfl rfl rfl (by omega)
            have hS234 := sjk_fr hi0.1 hK hG219 rfl rfl
            have hW235 := rwx_fr hi1 hK hG219 rfl rfl rfl (by omega)
            refine w_ldA e102_121 (fun _ => rfl) rfl ?_
            refine w_kB e102_122 rfl ?_
            refine w_ldA e102_124 (fun _ => rfl) rfl ?_
            have e236 := tm_o hM216
            refine w_get e102_125 e236 rfl ?_
            refine w_iadd e102_128 ?_
            refine w_cv e102_129 (by decide) rfl e236 rfl (Nat.le_of_ble_eq_true rfl) (Nat.le_of_ble_eq_true rfl) (Nat.le_of_ble_eq_true rfl) (by decide) (by decide) (c83 hM216 hK217 hI218 (by omega)) (fun o237 v238 hq239 => ?_)
            obtain ⟨⟨sc240, ai241, al242, az243, hM244, hK245, hI246, hG247, hE248⟩, rfl⟩ := hq239
            have hs249 : sc240 0 = sc212 0 := hG247.1 0 rfl
            have hs250 : sc240 1 = sc212 1 := hG247.1 1 rfl
            have hs251 : sc240 4 = sc212 4 := hG247.1 4 rfl
            have hs252 : sc240 11 = sc212 11 := hG247.1 11 rfl
            have hs253 : sc240 14 = sc212 14 := hG247.1 14 rfl
            have hs254 : sc240 16 = sc212 16 := hG247.1 16 rfl
            have hs255 : sc240 18 = sc212 18 := hG247.1 18 rfl
            have hs256 : sc240 38 = sc212 38 := hG247.1 38 rfl
            have hs257 : sc240 40 = sc212 40 := hG247.1 40 rfl
            have hs258 : sc240 41 = sc212 41 := hG247.1 41 rfl
            have hs259 : sc240 42 = sc212 42 := hG247.1 42 rfl
            have hF260 : fr [0, 10, 11, 12, 13, 14, 15, 16, 18, 27, 28, 38, 40, 41, 42] [252, 253, 254, 255, 256, 257, 258, 259, 260, 261] 16 70 sc ai al az sc240 ai241 al242 az243 := fr_t hF232 hG247 rfl rfl (by omega)
            have hR261 := ri2_fr hR233 hK217 hG247 rfl rfl rfl rfl rfl rfl rfl rfl rfl (by omega)
            have hS262 := sjk_fr hS234 hK217 hG247 rfl rfl
            have hW263 := rwx_fr hW235 hK217 hG247 rfl rfl rfl (by omega)
            refine w_ldI e102_132 (fun _ => rfl) rfl ?_
            refine w_if e102_133 (by omega) (fun (h264 : 0 ≤ x2) => ?_) (fun (h264 : x2 < 0) => ?_)
            ·
              refine w_ldA e102_159 (fun _ => rfl) rfl ?_
              refine w_x e102_160 (fun _ => rfl) ?_
              have e265 := tm_o hM244
              refine w_get e102_161 e265 rfl ?_
              refine w_kI e102_164 ?_
              refine w_iadd e102_165 ?_
              refine w_put e102_166 e265 (Nat.le_of_ble_eq_true rfl) rfl (fun v268 b266 h267 => ?_)
              obtain ⟨sc269, hd271, hM270⟩ : ∃ z, z = u1 sc240 42 ((sc240 42) + 1) ∧ tm z ai241 al242 az243 v0 v268 := ⟨_, rfl, tm_ps 42 hM244 (by omega) b266 h267⟩
              have hs272 : sc269 0 = sc240 0 := by rw [hd271]; exact u1_o (by decide)
              have hs273 : sc269 1 = sc240 1 := by rw [hd271]; exact u1_o (by decide)
              have hs274 : sc269 4 = sc240 4 := by rw [hd271]; exact u1_o (by decide)
              have hs275 : sc269 11 = sc240 11 := by rw [hd271]; exact u1_o (by decide)
              have hs276 : sc269 14 = sc240 14 := by rw [hd271]; exact u1_o (by decide)
              have hs277 : sc269 16 = sc240 16 := by rw [hd271]; exact u1_o (by decide)
              have hs278 : sc269 18 = sc240 18 := by rw [hd271]; exact u1_o (by decide)
              have hs279 : sc269 38 = sc240 38 := by rw [hd271]; exact u1_o (by decide)
              have hs280 : sc269 40 = sc240 40 := by rw [hd271]; exact u1_o (by decide)
              have hs281 : sc269 41 = sc240 41 := by rw [hd271]; exact u1_o (by decide)
              have hs282 : sc269 42 = (sc240 42) + 1 := by rw [hd271]; exact u1_s
              have hF283 : fr [0, 10, 11, 12, 13, 14, 15, 16, 18, 27, 28, 38, 40, 41, 42] [252, 253, 254, 255, 256, 257, 258, 259, 260, 261] 16 70 sc ai al az sc269 ai241 al242 az243 := fr_s hF260 hd271 rfl
              have hI284 : gi sc269 ai241 al242 az243 := gi_s hI246 hd271 (by decide) (by decide) (by decide)
              have hR285 := ri2_fr hR261 hK245 (fr_s (X := [42]) (Y := []) (lo := 1) (hi := 0) (fr_0 _ _ _ _ sc240 ai241 al242 az243) hd271 rfl) rfl rfl rfl rfl rfl rfl rfl rfl rfl (by omega)
              have hS286 := sjk_fr hS262 hK245 (fr_s (X := [42]) (Y := []) (lo := 1) (hi := 0) (fr_0 _ _ _ _ sc240 ai241 al242 az243) hd271 rfl) rfl rfl
              have hW287 := rwx_fr hW263 hK245 (fr_s (X := [42]) (Y := []) (lo := 1) (hi := 0) (fr_0 _ _ _ _ sc240 ai241 al242 az243) hd271 rfl) rfl rfl rfl (by omega)
              refine w_iinc (A1 := [some (.ref 238), none, some (.int (vz x2)), some (.int (vz (x3 + 1))), none]) e102_169 rfl (by decide) rfl ?_
              refine w_x e102_172 (fun _ => rfl) ?_
              exact w_sub (A1 := [some (.ref 238), none, some (.int (vz x2)), some (.int (vz (x3 + 1))), none]) (And.intro rfl (And.intro rfl (And.intro rfl trivial))) ((ih.2.1) v268 sc269 ai241 al242 az243 x2 (x3 + 1) hM270 hK245 hI284 hF283 (by omega) (by omega) hR285 (Or.inl (by omega)) (by omega) (by omega) (by omega))
            ·
              refine w_ldA e102_136 (fun _ => rfl) rfl ?_
              refine w_kB e102_137 rfl ?_
              refine w_ldA e102_139 (fun _ => rfl) rfl ?_
              have e288 := tm_o hM244
              refine w_get e102_140 e288 rfl ?_
              refine w_iadd e102_143 ?_
              refine w_cv e102_144 (by decide) rfl e288 rfl (Nat.le_of_ble_eq_true rfl) (Nat.le_of_ble_eq_true rfl) (Nat.le_of_ble_eq_true rfl) (by decide) (by decide) (c86 hM244 hK245 (by omega) hI246.1.1.1) (fun o289 v290 hq291 => ?_)
              obtain ⟨rfl, rfl⟩ := hq291
              have hp292 := mpI_bd sc240 ai241 al242 az243 (16 + (sc240 42)) hI246.1.1.1
              show vm_Wp _ _ _ 147 _ [.int (vz (mpI sc240 ai241 al242 az243 (16 + (sc240 42))))] _ _
              refine w_kI e102_147 ?_
              refine w_ic e102_148 (by omega) (by omega) (fun (h293 : mpI sc240 ai241 al242 az243 (16 + (sc240 42)) ≠ -1) => ?_) (fun (h293 : mpI sc240 ai241 al242 az243 (16 + (sc240 42)) = -1) => ?_)
              ·
                have he294 : mpI sc240 ai241 al242 az243 (16 + sc240 42) = mpI sc240 ai241 al242 az243 (16 + sc_ 42) := by rw [show sc240 42 = sc_ 42 by omega]
                have hV295 := rws_add (hW263.resolve_left (by omega)) (by omega)
                refine w_ldA e102_159 (fun _ => rfl) rfl ?_
                refine w_x e102_160 (fun _ => rfl) ?_
                refine w_get e102_161 e288 rfl ?_
                refine w_kI e102_164 ?_
                refine w_iadd e102_165 ?_
                refine w_put e102_166 e288 (Nat.le_of_ble_eq_true rfl) rfl (fun v298 b296 h297 => ?_)
                obtain ⟨sc299, hd301, hM300⟩ : ∃ z, z = u1 sc240 42 ((sc240 42) + 1) ∧ tm z ai241 al242 az243 v0 v298 := ⟨_, rfl, tm_ps 42 hM244 (by omega) b296 h297⟩
                have hs302 : sc299 0 = sc240 0 := by rw [hd301]; exact u1_o (by decide)
                have hs303 : sc299 1 = sc240 1 := by rw [hd301]; exact u1_o (by decide)
                have hs304 : sc299 4 = sc240 4 := by rw [hd301]; exact u1_o (by decide)
                have hs305 : sc299 11 = sc240 11 := by rw [hd301]; exact u1_o (by decide)
                have hs306 : sc299 14 = sc240 14 := by rw [hd301]; exact u1_o (by decide)
                have hs307 : sc299 16 = sc240 16 := by rw [hd301]; exact u1_o (by decide)
                have hs308 : sc299 18 = sc240 18 := by rw [hd301]; exact u1_o (by decide)
                have hs309 : sc299 38 = sc240 38 := by rw [hd301]; exact u1_o (by decide)
                have hs310 : sc299 40 = sc240 40 := by rw [hd301]; exact u1_o (by decide)
                have hs311 : sc299 41 = sc240 41 := by rw [hd301]; exact u1_o (by decide)
                have hs312 : sc299 42 = (sc240 42) + 1 := by rw [hd301]; exact u1_s
                have hF313 : fr [0, 10, 11, 12, 13, 14, 15, 16, 18, 27, 28, 38, 40, 41, 42] [252, 253, 254, 255, 256, 257, 258, 259, 260, 261] 16 70 sc ai al az sc299 ai241 al242 az243 := fr_s hF260 hd301 rfl
                have hI314 : gi sc299 ai241 al242 az243 := gi_s hI246 hd301 (by decide) (by decide) (by decide)
                have hR315 := ri2_fr hR261 hK245 (fr_s (X := [42]) (Y := []) (lo := 1) (hi := 0) (fr_0 _ _ _ _ sc240 ai241 al242 az243) hd301 rfl) rfl rfl rfl rfl rfl rfl rfl rfl rfl (by omega)
                have hS316 := sjk_fr hS262 hK245 (fr_s (X := [42]) (Y := []) (lo := 1) (hi := 0) (fr_0 _ _ _ _ sc240 ai241 al242 az243) hd301 rfl) rfl rfl
                have hW317 := rwx_fr hW263 hK245 (fr_s (X := [42]) (Y := []) (lo := 1) (hi := 0) (fr_0 _ _ _ _ sc240 ai241 al242 az243) hd301 rfl) rfl rfl rfl (by omega)
                have hV318 := rws_fr hV295 hK245 (fr_s (X := [42]) (Y := []) (lo := 1) (hi := 0) (fr_0 _ _ _ _ sc240 ai241 al242 az243) hd301 rfl) rfl rfl rfl (by omega)
                refine w_iinc (A1 := [some (.ref 238), none, some (.int (vz x2)), some (.int (vz (x3 + 1))), none]) e102_169 rfl (by decide) rfl ?_
                refine w_x e102_172 (fun _ => rfl) ?_
                exact w_sub (A1 := [some (.ref 238), none, some (.int (vz x2)), some (.int (vz (x3 + 1))), none]) (And.intro rfl (And.intro rfl (And.intro rfl trivial))) ((ih.2.1) v298 sc299 ai241 al242 az243 x2 (x3 + 1) hM300 hK245 hI314 hF313 (by omega) (by omega) hR315 (Or.inr (rws_n hV318 (by omega))) (by omega) (by omega) (by omega))
              ·
                refine w_kB e102_151 rfl ?_
                refine w_ldA e102_153 (fun _ => rfl) rfl ?_
                refine w_get e102_154 e288 rfl ?_
                refine w_iadd e102_157 ?_
                refine w_stI (j := 2) (A1 := [some (.ref 238), none, some (.int (vz (16 + (sc240 42)))), some (.int (vz x3)), none]) e102_158 (fun _ => rfl) (by decide) rfl ?_
                refine w_ldA e102_159 (fun _ => rfl) rfl ?_
                refine w_x e102_160 (fun _ => rfl) ?_
                refine w_get e102_161 e288 rfl ?_
                refine w_kI e102_164 ?_
                refine w_iadd e102_165 ?_
                refine w_put e102_166 e288 (Nat.le_of_ble_eq_true rfl) rfl (fun v321 b319 h320 => ?_)
                obtain ⟨sc322, hd324, hM323⟩ : ∃ z, z = u1 sc240 42 ((sc240 42) + 1) ∧ tm z ai241 al242 az243 v0 v321 := ⟨_, rfl, tm_ps 42 hM244 (by omega) b319 h320⟩
                have hs325 : sc322 0 = sc240 0 := by rw [hd324]; exact u1_o (by decide)
                have hs326 : sc322 1 = sc240 1 := by rw [hd324]; exact u1_o (by decide)
                have hs327 : sc322 4 = sc240 4 := by rw [hd324]; exact u1_o (by decide)
                have hs328 : sc322 11 = sc240 11 := by rw [hd324]; exact u1_o (by decide)
                have hs329 : sc322 14 = sc240 14 := by rw [hd324]; exact u1_o (by decide)
                have hs330 : sc322 16 = sc240 16 := by rw [hd324]; exact u1_o (by decide)
                have hs331 : sc322 18 = sc240 18 := by rw [hd324]; exact u1_o (by decide)
                have hs332 : sc322 38 = sc240 38 := by rw [hd324]; exact u1_o (by decide)
                have hs333 : sc322 40 = sc240 40 := by rw [hd324]; exact u1_o (by decide)
                have hs334 : sc322 41 = sc240 41 := by rw [hd324]; exact u1_o (by decide)
                have hs335 : sc322 42 = (sc240 42) + 1 := by rw [hd324]; exact u1_s
                have hF336 : fr [0, 10, 11, 12, 13, 14, 15, 16, 18, 27, 28, 38, 40, 41, 42] [252, 253, 254, 255, 256, 257, 258, 259, 260, 261] 16 70 sc ai al az sc322 ai241 al242 az243 := fr_s hF260 hd324 rfl
                have hI337 : gi sc322 ai241 al242 az243 := gi_s hI246 hd324 (by decide) (by decide) (by decide)
                have hR338 := ri2_fr hR261 hK245 (fr_s (X := [42]) (Y := []) (lo := 1) (hi := 0) (fr_0 _ _ _ _ sc240 ai241 al242 az243) hd324 rfl) rfl rfl rfl rfl rfl rfl rfl rfl rfl (by omega)
                have hS339 := sjk_fr hS262 hK245 (fr_s (X := [42]) (Y := []) (lo := 1) (hi := 0) (fr_0 _ _ _ _ sc240 ai241 al242 az243) hd324 rfl) rfl rfl
                have hW340 := rwx_fr hW263 hK245 (fr_s (X := [42]) (Y := []) (lo := 1) (hi := 0) (fr_0 _ _ _ _ sc240 ai241 al242 az243) hd324 rfl) rfl rfl rfl (by omega)
                refine w_iinc (A1 := [some (.ref 238), none, some (.int (vz (16 + (sc240 42)))), some (.int (vz (x3 + 1))), none]) e102_169 rfl (by decide) rfl ?_
                refine w_x e102_172 (fun _ => rfl) ?_
                exact w_sub (A1 := [some (.ref 238), none, some (.int (vz (16 + (sc240 42)))), some (.int (vz (x3 + 1))), none]) (And.intro rfl (And.intro rfl (And.intro rfl trivial))) ((ih.2.1) v321 sc322 ai241 al242 az243 (16 + (sc240 42)) (x3 + 1) hM323 hK245 hI337 hF336 (by omega) (by omega) hR338 (Or.inl (by omega)) (by omega) (by omega) (by omega))
    ·
      intro vh sc_ ai_ al_ az_ x3 hM hK hJ hF hx3 hi0 hi1 hi2 hi3 hN
      have hn8 := hJ.1.1
      refine w_ldI e102_196 (fun _ => rfl) rfl ?_
      refine w_kI e102_197 ?_
      refine w_ic e102_198 (by omega) (by omega) (fun (h341 : x3 ≠ 3) => ?_) (fun (h341 : x3 = 3) => ?_)
      ·
        have hB342 := hi2.resolve_left h341
        refine w_ldA e102_218 (fun _ => rfl) rfl ?_
        refine w_ldA e102_219 (fun _ => rfl) rfl ?_
        have e343 := tm_o hM
        refine w_get e102_220 e343 rfl ?_
        refine w_put e102_223 e343 (Nat.le_of_ble_eq_true rfl) rfl (fun v346 b344 h345 => ?_)
        obtain ⟨sc347, hd349, hM348⟩ : ∃ z, z = u1 sc_ 15 (sc_ 42) ∧ tm z ai_ al_ az_ v0 v346 := ⟨_, rfl, tm_ps 15 hM (tm_s hM 42) b344 h345⟩
        have hs350 : sc347 0 = sc_ 0 := by rw [hd349]; exact u1_o (by decide)
        have hs351 : sc347 1 = sc_ 1 := by rw [hd349]; exact u1_o (by decide)
        have hs352 : sc347 4 = sc_ 4 := by rw [hd349]; exact u1_o (by decide)
        have hs353 : sc347 11 = sc_ 11 := by rw [hd349]; exact u1_o (by decide)
        have hs354 : sc347 14 = sc_ 14 := by rw [hd349]; exact u1_o (by decide)
        have hs355 : sc347 16 = sc_ 16 := by rw [hd349]; exact u1_o (by decide)
        have hs356 : sc347 18 = sc_ 18 := by rw [hd349]; exact u1_o (by decide)
        have hs357 : sc347 38 = sc_ 38 := by rw [hd349]; exact u1_o (by decide)
        have hs358 : sc347 40 = sc_ 40 := by rw [hd349]; exact u1_o (by decide)
        have hs359 : sc347 41 = sc_ 41 := by rw [hd349]; exact u1_o (by decide)
        have hs360 : sc347 42 = sc_ 42 := by rw [hd349]; exact u1_o (by decide)
        have hF361 : fr [0, 10, 11, 12, 13, 14, 15, 16, 18, 27, 28, 38, 40, 41, 42] [252, 253, 254, 255, 256, 257, 258, 259, 260, 261] 16 70 sc ai al az sc347 ai_ al_ az_ := fr_s hF hd349 rfl
        have hI362 : gi sc347 ai_ al_ az_ := gi_s hJ hd349 (by decide) (by decide) (by decide)
        have hR363 := ri2_fr hi0 hK (fr_s (X := [15]) (Y := []) (lo := 1) (hi := 0) (fr_0 _ _ _ _ sc_ ai_ al_ az_) hd349 rfl) rfl rfl rfl rfl rfl rfl rfl rfl rfl (by omega)
        have hS364 := sjk_fr hi0.1 hK (fr_s (X := [15]) (Y := []) (lo := 1) (hi := 0) (fr_0 _ _ _ _ sc_ ai_ al_ az_) hd349 rfl) rfl rfl
        have hV365 := rws_fr hi1 hK (fr_s (X := [15]) (Y := []) (lo := 1) (hi := 0) (fr_0 _ _ _ _ sc_ ai_ al_ az_) hd349 rfl) rfl rfl rfl (by omega)
        have hB366 := bs_fr hB342 hK (fr_s (X := [15]) (Y := []) (lo := 1) (hi := 0) (fr_0 _ _ _ _ sc_ ai_ al_ az_) hd349 rfl) rfl rfl rfl rfl (by omega)
        refine w_ldI e102_226 (fun _ => rfl) rfl ?_
        refine w_kI e102_227 ?_
        refine w_ic e102_228 (by omega) (by omega) (fun (h367 : x3 ≠ 1) => ?_) (fun (h367 : x3 = 1) => ?_)
        ·
          refine w_ldI e102_278 (fun _ => rfl) rfl ?_
          refine w_kI e102_279 ?_
          refine w_ic e102_280 (by omega) (by omega) (fun (h368 : x3 ≠ 3) => ?_) (fun (h368 : x3 = 3) => ?_)
          ·
            refine w_ldI e102_287 (fun _ => rfl) rfl ?_
            exact w_ri e102_288 rfl ⟨⟨sc347, ai_, al_, az_, hM348, hK, hI362, hF361, hR363⟩, x3, (by omega), rfl⟩
          ·
            refine w_kI e102_283 ?_
            refine w_x e102_284 (fun _ => rfl) ?_
            exact w_ri e102_288 rfl ⟨⟨sc347, ai_, al_, az_, hM348, hK, hI362, hF361, hR363⟩, 2, (by omega), rfl⟩
        ·
          refine w_ldA e102_231 (fun _ => rfl) rfl ?_
          refine w_kI e102_232 ?_
          have e369 := tm_o hM348
          refine w_put e102_233 e369 (Nat.le_of_ble_eq_true rfl) (vz_okz (by omega)) (fun v372 b370 h371 => ?_)
          obtain ⟨sc373, hd375, hM374⟩ : ∃ z, z = u1 sc347 10 (1) ∧ tm z ai_ al_ az_ v0 v372 := ⟨_, rfl, tm_ps 10 hM348 (by omega) b370 h371⟩
          have hs376 : sc373 0 = sc347 0 := by rw [hd375]; exact u1_o (by decide)
          have hs377 : sc373 1 = sc347 1 := by rw [hd375]; exact u1_o (by decide)
          have hs378 : sc373 4 = sc347 4 := by rw [hd375]; exact u1_o (by decide)
          have hs379 : sc373 11 = sc347 11 := by rw [hd375]; exact u1_o (by decide)
          have hs380 : sc373 14 = sc347 14 := by rw [hd375]; exact u1_o (by decide)
          have hs381 : sc373 16 = sc347 16 := by rw [hd375]; exact u1_o (by decide)
          have hs382 : sc373 18 = sc347 18 := by rw [hd375]; exact u1_o (by decide)
          have hs383 : sc373 38 = sc347 38 := by rw [hd375]; exact u1_o (by decide)
          have hs384 : sc373 40 = sc347 40 := by rw [hd375]; exact u1_o (by decide)
          have hs385 : sc373 41 = sc347 41 := by rw [hd375]; exact u1_o (by decide)
          have hs386 : sc373 42 = sc347 42 := by rw [hd375]; exact u1_o (by decide)
          have hF387 : fr [0, 10, 11, 12, 13, 14, 15, 16, 18, 27, 28, 38, 40, 41, 42] [252, 253, 254, 255, 256, 257, 258, 259, 260, 261] 16 70 sc ai al az sc373 ai_ al_ az_ := fr_s hF361 hd375 rfl
          have hI388 : gi sc373 ai_ al_ az_ := gi_s hI362 hd375 (by decide) (by decide) (by decide)
          have hR389 := ri2_fr hR363 hK (fr_s (X := [10]) (Y := []) (lo := 1) (hi := 0) (fr_0 _ _ _ _ sc347 ai_ al_ az_) hd375 rfl) rfl rfl rfl rfl rfl rfl rfl rfl rfl (by omega)
          have hS390 := sjk_fr hS364 hK (fr_s (X := [10]) (Y := []) (lo := 1) (hi := 0) (fr_0 _ _ _ _ sc347 ai_ al_ az_) hd375 rfl) rfl rfl
          have hV391 := rws_fr hV365 hK (fr_s (X := [10]) (Y := []) (lo := 1) (hi := 0) (fr_0 _ _ _ _ sc347 ai_ al_ az_) hd375 rfl) rfl rfl rfl (by omega)
          have hB392 := bs_fr hB366 hK (fr_s (X := [10]) (Y := []) (lo := 1) (hi := 0) (fr_0 _ _ _ _ sc347 ai_ al_ az_) hd375 rfl) rfl rfl rfl rfl (by omega)
          refine w_ldA e102_236 (fun _ => rfl) rfl ?_
          refine w_ldA e102_237 (fun _ => rfl) rfl ?_
          have e393 := tm_o hM374
          refine w_get e102_238 e393 rfl ?_
          refine w_put e102_241 e393 (Nat.le_of_ble_eq_true rfl) rfl (fun v396 b394 h395 => ?_)
          obtain ⟨sc397, hd399, hM398⟩ : ∃ z, z = u1 sc373 11 (sc373 40) ∧ tm z ai_ al_ az_ v0 v396 := ⟨_, rfl, tm_ps 11 hM374 (tm_s hM374 40) b394 h395⟩
          have hs400 : sc397 0 = sc373 0 := by rw [hd399]; exact u1_o (by decide)
          have hs401 : sc397 1 = sc373 1 := by rw [hd399]; exact u1_o (by decide)
          have hs402 : sc397 4 = sc373 4 := by rw [hd399]; exact u1_o (by decide)
          have hs403 : sc397 11 = sc373 40 := by rw [hd399]; exact u1_s
          have hs404 : sc397 14 = sc373 14 := by rw [hd399]; exact u1_o (by decide)
          have hs405 : sc397 16 = sc373 16 := by rw [hd399]; exact u1_o (by decide)
          have hs406 : sc397 18 = sc373 18 := by rw [hd399]; exact u1_o (by decide)
          have hs407 : sc397 38 = sc373 38 := by rw [hd399]; exact u1_o (by decide)
          have hs408 : sc397 40 = sc373 40 := by rw [hd399]; exact u1_o (by decide)
          have hs409 : sc397 41 = sc373 41 := by rw [hd399]; exact u1_o (by decide)
          have hs410 : sc397 42 = sc373 42 := by rw [hd399]; exact u1_o (by decide)
          have hF411 : fr [0, 10, 11, 12, 13, 14, 15, 16, 18, 27, 28, 38, 40, 41, 42] [252, 253, 254, 255, 256, 257, 258, 259, 260, 261] 16 70 sc ai al az sc397 ai_ al_ az_ := fr_s hF387 hd399 rfl
          have hI412 : gi sc397 ai_ al_ az_ := gi_s hI388 hd399 (by decide) (by decide) (by decide)
          have hS413 := sjk_fr hS390 hK (fr_s (X := [11]) (Y := []) (lo := 1) (hi := 0) (fr_0 _ _ _ _ sc373 ai_ al_ az_) hd399 rfl) rfl rfl
          have hV414 := rws_fr hV391 hK (fr_s (X := [11]) (Y := []) (lo := 1) (hi := 0) (fr_0 _ _ _ _ sc373 ai_ al_ az_) hd399 rfl) rfl rfl rfl (by omega)
          have hB415 := bs_fr hB392 hK (fr_s (X := [11]) (Y := []) (lo := 1) (hi := 0) (fr_0 _ _ _ _ sc373 ai_ al_ az_) hd399 rfl) rfl rfl rfl rfl (by omega)
          refine w_kI e102_244 ?_
          refine w_stI (j := 4) (A1 := [some (.ref 238), none, none, some (.int (vz x3)), some (.int (vz 0))]) e102_245 (fun _ => rfl) (by decide) rfl ?_
          exact w_sub (A1 := [some (.ref 238), none, none, some (.int (vz x3)), some (.int (vz 0))]) (And.intro rfl (And.intro rfl (And.intro rfl trivial))) ((ih.2.2.2) v396 sc397 ai_ al_ az_ x3 0 hM398 hK hI412 hF411 (by omega) (by omega) hS413 (bs_n hB415 (by omega)) (fun m h8 h9 => by omega) (by omega) (by omega))
      ·
        refine w_ldA e102_201 (fun _ => rfl) rfl ?_
        have e416 := tm_o hM
        refine w_get e102_202 e416 rfl ?_
        refine w_kB e102_205 rfl ?_
        refine w_ic e102_207 (tm_s hM 14) (by omega) (fun (h417 : 12 ≤ sc_ 14) => ?_) (fun (h417 : sc_ 14 < 12) => ?_)
        ·
          refine w_ldA e102_218 (fun _ => rfl) rfl ?_
          refine w_ldA e102_219 (fun _ => rfl) rfl ?_
          refine w_get e102_220 e416 rfl ?_
          refine w_put e102_223 e416 (Nat.le_of_ble_eq_true rfl) rfl (fun v420 b418 h419 => ?_)
          obtain ⟨sc421, hd423, hM422⟩ : ∃ z, z = u1 sc_ 15 (sc_ 42) ∧ tm z ai_ al_ az_ v0 v420 := ⟨_, rfl, tm_ps 15 hM (tm_s hM 42) b418 h419⟩
          have hs424 : sc421 0 = sc_ 0 := by rw [hd423]; exact u1_o (by decide)
          have hs425 : sc421 1 = sc_ 1 := by rw [hd423]; exact u1_o (by decide)
          have hs426 : sc421 4 = sc_ 4 := by rw [hd423]; exact u1_o (by decide)
          have hs427 : sc421 11 = sc_ 11 := by rw [hd423]; exact u1_o (by decide)
          have hs428 : sc421 14 = sc_ 14 := by rw [hd423]; exact u1_o (by decide)
          have hs429 : sc421 16 = sc_ 16 := by rw [hd423]; exact u1_o (by decide)
          have hs430 : sc421 18 = sc_ 18 := by rw [hd423]; exact u1_o (by decide)
          have hs431 : sc421 38 = sc_ 38 := by rw [hd423]; exact u1_o (by decide)
          have hs432 : sc421 40 = sc_ 40 := by rw [hd423]; exact u1_o (by decide)
          have hs433 : sc421 41 = sc_ 41 := by rw [hd423]; exact u1_o (by decide)
          have hs434 : sc421 42 = sc_ 42 := by rw [hd423]; exact u1_o (by decide)
          have hF435 : fr [0, 10, 11, 12, 13, 14, 15, 16, 18, 27, 28, 38, 40, 41, 42] [252, 253, 254, 255, 256, 257, 258, 259, 260, 261] 16 70 sc ai al az sc421 ai_ al_ az_ := fr_s hF hd423 rfl
          have hI436 : gi sc421 ai_ al_ az_ := gi_s hJ hd423 (by decide) (by decide) (by decide)
          have hR437 := ri2_fr hi0 hK (fr_s (X := [15]) (Y := []) (lo := 1) (hi := 0) (fr_0 _ _ _ _ sc_ ai_ al_ az_) hd423 rfl) rfl rfl rfl rfl rfl rfl rfl rfl rfl (by omega)
          have hS438 := sjk_fr hi0.1 hK (fr_s (X := [15]) (Y := []) (lo := 1) (hi := 0) (fr_0 _ _ _ _ sc_ ai_ al_ az_) hd423 rfl) rfl rfl
          have hV439 := rws_fr hi1 hK (fr_s (X := [15]) (Y := []) (lo := 1) (hi := 0) (fr_0 _ _ _ _ sc_ ai_ al_ az_) hd423 rfl) rfl rfl rfl (by omega)
          refine w_ldI e102_226 (fun _ => rfl) rfl ?_
          refine w_kI e102_227 ?_
          refine w_ic e102_228 (by omega) (by omega) (fun (h440 : x3 ≠ 1) => ?_) (fun (h440 : x3 = 1) => ?_)
          ·
            refine w_ldI e102_278 (fun _ => rfl) rfl ?_
            refine w_kI e102_279 ?_
            refine w_ic e102_280 (by omega) (by omega) (fun (h441 : x3 ≠ 3) => ?_) (fun (h441 : x3 = 3) => ?_)
            ·
              refine w_ldI e102_287 (fun _ => rfl) rfl ?_
              exact w_ri e102_288 rfl ⟨⟨sc421, ai_, al_, az_, hM422, hK, hI436, hF435, hR437⟩, x3, (by omega), rfl⟩
            ·
              refine w_kI e102_283 ?_
              refine w_x e102_284 (fun _ => rfl) ?_
              exact w_ri e102_288 rfl ⟨⟨sc421, ai_, al_, az_, hM422, hK, hI436, hF435, hR437⟩, 2, (by omega), rfl⟩
          ·
            refine w_ldA e102_231 (fun _ => rfl) rfl ?_
            refine w_kI e102_232 ?_
            have e442 := tm_o hM422
            refine w_put e102_233 e442 (Nat.le_of_ble_eq_true rfl) (vz_okz (by omega)) (fun v445 b443 h444 => ?_)
            obtain ⟨sc446, hd448, hM447⟩ : ∃ z, z = u1 sc421 10 (1) ∧ tm z ai_ al_ az_ v0 v445 := ⟨_, rfl, tm_ps 10 hM422 (by omega) b443 h444⟩
            have hs449 : sc446 0 = sc421 0 := by rw [hd448]; exact u1_o (by decide)
            have hs450 : sc446 1 = sc421 1 := by rw [hd448]; exact u1_o (by decide)
            have hs451 : sc446 4 = sc421 4 := by rw [hd448]; exact u1_o (by decide)
            have hs452 : sc446 11 = sc421 11 := by rw [hd448]; exact u1_o (by decide)
            have hs453 : sc446 14 = sc421 14 := by rw [hd448]; exact u1_o (by decide)
            have hs454 : sc446 16 = sc421 16 := by rw [hd448]; exact u1_o (by decide)
            have hs455 : sc446 18 = sc421 18 := by rw [hd448]; exact u1_o (by decide)
            have hs456 : sc446 38 = sc421 38 := by rw [hd448]; exact u1_o (by decide)
            have hs457 : sc446 40 = sc421 40 := by rw [hd448]; exact u1_o (by decide)
            have hs458 : sc446 41 = sc421 41 := by rw [hd448]; exact u1_o (by decide)
            have hs459 : sc446 42 = sc421 42 := by rw [hd448]; exact u1_o (by decide)
            have hF460 : fr [0, 10, 11, 12, 13, 14, 15, 16, 18, 27, 28, 38, 40, 41, 42] [252, 253, 254, 255, 256, 257, 258, 259, 260, 261] 16 70 sc ai al az sc446 ai_ al_ az_ := fr_s hF435 hd448 rfl
            have hI461 : gi sc446 ai_ al_ az_ := gi_s hI436 hd448 (by decide) (by decide) (by decide)
            have hR462 := ri2_fr hR437 hK (fr_s (X := [10]) (Y := []) (lo := 1) (hi := 0) (fr_0 _ _ _ _ sc421 ai_ al_ az_) hd448 rfl) rfl rfl rfl rfl rfl rfl rfl rfl rfl (by omega)
            have hS463 := sjk_fr hS438 hK (fr_s (X := [10]) (Y := []) (lo := 1) (hi := 0) (fr_0 _ _ _ _ sc421 ai_ al_ az_) hd448 rfl) rfl rfl
            have hV464 := rws_fr hV439 hK (fr_s (X := [10]) (Y := []) (lo := 1) (hi := 0) (fr_0 _ _ _ _ sc421 ai_ al_ az_) hd448 rfl) rfl rfl rfl (by omega)
            refine w_ldA e102_236 (fun _ => rfl) rfl ?_
            refine w_ldA e102_237 (fun _ => rfl) rfl ?_
            have e465 := tm_o hM447
            refine w_get e102_238 e465 rfl ?_
            refine w_put e102_241 e465 (Nat.le_of_ble_eq_true rfl) rfl (fun v468 b466 h467 => ?_)
            obtain ⟨sc469, hd471, hM470⟩ : ∃ z, z = u1 sc446 11 (sc446 40) ∧ tm z ai_ al_ az_ v0 v468 := ⟨_, rfl, tm_ps 11 hM447 (tm_s hM447 40) b466 h467⟩
            have hs472 : sc469 0 = sc446 0 := by rw [hd471]; exact u1_o (by decide)
            have hs473 : sc469 1 = sc446 1 := by rw [hd471]; exact u1_o (by decide)
            have hs474 : sc469 4 = sc446 4 := by rw [hd471]; exact u1_o (by decide)
            have hs475 : sc469 11 = sc446 40 := by rw [hd471]; exact u1_s
            have hs476 : sc469 14 = sc446 14 := by rw [hd471]; exact u1_o (by decide)
            have hs477 : sc469 16 = sc446 16 := by rw [hd471]; exact u1_o (by decide)
            have hs478 : sc469 18 = sc446 18 := by rw [hd471]; exact u1_o (by decide)
            have hs479 : sc469 38 = sc446 38 := by rw [hd471]; exact u1_o (by decide)
            have hs480 : sc469 40 = sc446 40 := by rw [hd471]; exact u1_o (by decide)
            have hs481 : sc469 41 = sc446 41 := by rw [hd471]; exact u1_o (by decide)
            have hs482 : sc469 42 = sc446 42 := by rw [hd471]; exact u1_o (by decide)
            have hF483 : fr [0, 10, 11, 12, 13, 14, 15, 16, 18, 27, 28, 38, 40, 41, 42] [252, 253, 254, 255, 256, 257, 258, 259, 260, 261] 16 70 sc ai al az sc469 ai_ al_ az_ := fr_s hF460 hd471 rfl
            have hI484 : gi sc469 ai_ al_ az_ := gi_s hI461 hd471 (by decide) (by decide) (by decide)
            have hS485 := sjk_fr hS463 hK (fr_s (X := [11]) (Y := []) (lo := 1) (hi := 0) (fr_0 _ _ _ _ sc446 ai_ al_ az_) hd471 rfl) rfl rfl
            have hV486 := rws_fr hV464 hK (fr_s (X := [11]) (Y := []) (lo := 1) (hi := 0) (fr_0 _ _ _ _ sc446 ai_ al_ az_) hd471 rfl) rfl rfl rfl (by omega)
            refine w_kI e102_244 ?_
            refine w_stI (j := 4) (A1 := [some (.ref 238), none, none, some (.int (vz x3)), some (.int (vz 0))]) e102_245 (fun _ => rfl) (by decide) rfl ?_
            exact w_sub (A1 := [some (.ref 238), none, none, some (.int (vz x3)), some (.int (vz 0))]) (And.intro rfl (And.intro rfl (And.intro rfl trivial))) ((ih.2.2.2) v468 sc469 ai_ al_ az_ x3 0 hM470 hK hI484 hF483 (by omega) (by omega) hS485 (by exfalso; omega) (fun m h8 h9 => by omega) (by omega) (by omega))
        ·
          refine w_ldA e102_210 (fun _ => rfl) rfl ?_
          refine w_cv e102_211 (by decide) rfl e416 rfl (Nat.le_of_ble_eq_true rfl) (Nat.le_of_ble_eq_true rfl) (Nat.le_of_ble_eq_true rfl) (by decide) (by decide) (c100 hM hK hJ (by omega) (rws_n hi1 (by omega)) (by omega) (by omega)) (fun o487 v488 hq489 => ?_)
          obtain ⟨⟨sc490, ai491, al492, az493, hM494, hK495, hI496, hG497, hE498⟩, q499, h500, rfl⟩ := hq489
          have hs501 : sc490 0 = sc_ 0 := hG497.1 0 rfl
          have hs502 : sc490 1 = sc_ 1 := hG497.1 1 rfl
          have hs503 : sc490 4 = sc_ 4 := hG497.1 4 rfl
          have hs504 : sc490 11 = sc_ 11 := hG497.1 11 rfl
          have hs505 : sc490 18 = sc_ 18 := hG497.1 18 rfl
          have hF506 : fr [0, 10, 11, 12, 13, 14, 15, 16, 18, 27, 28, 38, 40, 41, 42] [252, 253, 254, 255, 256, 257, 258, 259, 260, 261] 16 70 sc ai al az sc490 ai491 al492 az493 := fr_t hF hG497 rfl rfl (by omega)
          have hS507 := sjk_fr hi0.1 hK hG497 rfl rfl
          have hr508 := hE498.1
          have hr509 := hE498.2.2.1
          have hr510 := hE498.2.2.2.1
          have hr511 := hE498.2.2.2.2.1
          have hV512 := hE498.2.1
          have hB513 := hE498.2.2.2.2.2
          have hR514 : ri2 sc490 ai491 al492 az493 := ri2_0 hS507 (by omega) (by omega)
          refine w_stI (j := 3) (A1 := [some (.ref 238), none, none, some (.int (vz q499)), none]) e102_214 (fun _ => rfl) (by decide) rfl ?_
          refine w_x e102_215 (fun _ => rfl) ?_
          exact w_sub (A1 := [some (.ref 238), none, none, some (.int (vz q499)), none]) (And.intro rfl (And.intro rfl trivial)) ((ih.2.2.1) v488 sc490 ai491 al492 az493 q499 hM494 hK495 hI496 hF506 (by omega) hR514 (rws_n hV512 (by omega)) (Or.inr (bs_n hB513 (by omega))) (by omega) (by omega))
    ·
      intro vh sc_ ai_ al_ az_ x3 x4 hM hK hJ hF hx3 hx4 hi0 hi1 hi2 hi3 hN
      have hn8 := hJ.1.1
      refine w_ldI e102_247 (fun _ => rfl) rfl ?_
      refine w_ldA e102_249 (fun _ => rfl) rfl ?_
      have e515 := tm_o hM
      refine w_get e102_250 e515 rfl ?_
      refine w_ic e102_253 (by omega) (tm_s hM 40) (fun (h516 : sc_ 40 ≤ x4) => ?_) (fun (h516 : x4 < sc_ 40) => ?_)
      ·
        refine w_ldI e102_278 (fun _ => rfl) rfl ?_
        refine w_kI e102_279 ?_
        refine w_ic e102_280 (by omega) (by omega) (fun (h517 : x3 ≠ 3) => ?_) (fun (h517 : x3 = 3) => ?_)
        ·
          refine w_ldI e102_287 (fun _ => rfl) rfl ?_
          exact w_ri e102_288 rfl ⟨⟨sc_, ai_, al_, az_, hM, hK, hJ, hF, ri2_mb hi0 (by omega) hi2 (by omega) (by omega)⟩, x3, (by omega), rfl⟩
        ·
          refine w_kI e102_283 ?_
          refine w_x e102_284 (fun _ => rfl) ?_
          exact w_ri e102_288 rfl ⟨⟨sc_, ai_, al_, az_, hM, hK, hJ, hF, ri2_mb hi0 (by omega) hi2 (by omega) (by omega)⟩, 2, (by omega), rfl⟩
      ·
        refine w_ldA e102_256 (fun _ => rfl) rfl ?_
        refine w_ldA e102_257 (fun _ => rfl) rfl ?_
        refine w_get e102_258 e515 rfl ?_
        refine w_ldI e102_261 (fun _ => rfl) rfl ?_
        have e518 := tm_i hM (a := 261) (n := 8) rfl
        refine w_ald e102_263 e518 (by omega) (by omega) (by decide) ?_
        show vm_Wp _ _ _ 264 _ [.int (vz (ai_ 261 (x4).toNat)), .ref 238] _ _
        have hb519 := hi1 (x4).toNat (by omega)
        refine w_kB e102_264 rfl ?_
        refine w_ldI e102_266 (fun _ => rfl) rfl ?_
        refine w_iadd e102_268 ?_
        refine w_cv e102_269 (by decide) rfl e515 rfl (Nat.le_of_ble_eq_true rfl) (Nat.le_of_ble_eq_true rfl) (Nat.le_of_ble_eq_true rfl) (by decide) (by decide) (k81 hM hK hJ (by omega) (by omega) (by omega)) (fun o520 v521 hq522 => ?_)
        obtain ⟨⟨sc523, ai524, al525, az526, hM527, hK528, hI529, hG530, hE531⟩, rfl⟩ := hq522
        have hs532 : sc523 0 = sc_ 0 := hG530.1 0 rfl
        have hs533 : sc523 1 = sc_ 1 := hG530.1 1 rfl
        have hs534 : sc523 4 = sc_ 4 := hG530.1 4 rfl
        have hs535 : sc523 11 = sc_ 11 := hG530.1 11 rfl
        have hs536 : sc523 14 = sc_ 14 := hG530.1 14 rfl
        have hs537 : sc523 16 = sc_ 16 := hG530.1 16 rfl
        have hs538 : sc523 18 = sc_ 18 := hG530.1 18 rfl
        have hs539 : sc523 38 = sc_ 38 := hG530.1 38 rfl
        have hs540 : sc523 40 = sc_ 40 := hG530.1 40 rfl
        have hs541 : sc523 41 = sc_ 41 := hG530.1 41 rfl
        have hs542 : sc523 42 = sc_ 42 := hG530.1 42 rfl
        have hF543 : fr [0, 10, 11, 12, 13, 14, 15, 16, 18, 27, 28, 38, 40, 41, 42] [252, 253, 254, 255, 256, 257, 258, 259, 260, 261] 16 70 sc ai al az sc523 ai524 al525 az526 := fr_t hF hG530 rfl rfl (by omega)
        have hS544 := sjk_fr hi0 hK hG530 rfl rfl
        have hB545 := bs_fr hi1 hK hG530 rfl rfl rfl rfl (by omega)
        have hMb546 := mb_fr hi2 hK hG530 rfl rfl rfl (by omega)
        have he547 := hE531.1
        have hMb548 := mb_add hMb546 (by rw [he547]; omega)
        refine w_iinc (A1 := [some (.ref 238), none, none, some (.int (vz x3)), some (.int (vz (x4 + 1)))]) e102_272 rfl (by decide) rfl ?_
        refine w_x e102_275 (fun _ => rfl) ?_
        exact w_sub (A1 := [some (.ref 238), none, none, some (.int (vz x3)), some (.int (vz (x4 + 1)))]) (And.intro rfl (And.intro rfl (And.intro rfl trivial))) ((ih.2.2.2) v521 sc523 ai524 al525 az526 x3 (x4 + 1) hM527 hK528 hI529 hF543 (by omega) (by omega) hS544 (bs_n hB545 (by omega)) hMb548 (by omega) (by omega))
set_option maxRecDepth 100000 in
set_option maxHeartbeats 4000000 in
theorem c102 {sc : Nat → Int} {ai : Nat → Nat → Int} {al : Nat → Nat → Int64} {az : Nat → Nat → Int32} {v0 vh : vm_H} (hM : tm sc ai al az v0 vh) (hK : tmok ai) (hI : gi sc ai al az) (hR : ri2 sc ai al az) : vm_Rp 7 181 102 [.ref 238] vh (fun r v1 => (∃ (sc1 : Nat → Int) (ai1 : Nat → Nat → Int) (al1 : Nat → Nat → Int64) (az1 : Nat → Nat → Int32), tm sc1 ai1 al1 az1 v0 v1 ∧ tmok ai1 ∧ gi sc1 ai1 al1 az1 ∧ fr [0, 10, 11, 12, 13, 14, 15, 16, 18, 27, 28, 38, 40, 41, 42] [252, 253, 254, 255, 256, 257, 258, 259, 260, 261] 16 70 sc ai al az sc1 ai1 al1 az1 ∧ (ri2 sc1 ai1 al1 az1)) ∧ ∃ q : Int, (-1 ≤ q ∧ q ≤ 3) ∧ r = some (.int (vz q))) := by
  have hF0 : fr [0, 10, 11, 12, 13, 14, 15, 16, 18, 27, 28, 38, 40, 41, 42] [252, 253, 254, 255, 256, 257, 258, 259, 260, 261] 16 70 sc ai al az sc ai al az := fr_0 _ _ _ _ _ _ _ _
  have hn8 := hI.1.1
  refine w_in (m := 4) ?_
  show vm_Wp _ _ _ 0 [some (.ref 238), none, none, none, none] [] _ _
  refine w_ldA e102_0 (fun _ => rfl) rfl ?_
  refine w_kI e102_1 ?_
  have e1 := tm_o hM
  refine w_put e102_2 e1 (Nat.le_of_ble_eq_true rfl) rfl (fun v4 b2 h3 => ?_)
  obtain ⟨sc5, hd7, hM6⟩ : ∃ z, z = u1 sc 0 (0) ∧ tm z ai al az v0 v4 := ⟨_, rfl, tm_ps 0 hM (by omega) b2 h3⟩
  have hs8 : sc5 0 = 0 := by rw [hd7]; exact u1_s
  have hs9 : sc5 1 = sc 1 := by rw [hd7]; exact u1_o (by decide)
  have hs10 : sc5 4 = sc 4 := by rw [hd7]; exact u1_o (by decide)
  have hs11 : sc5 11 = sc 11 := by rw [hd7]; exact u1_o (by decide)
  have hs12 : sc5 14 = sc 14 := by rw [hd7]; exact u1_o (by decide)
  have hs13 : sc5 16 = sc 16 := by rw [hd7]; exact u1_o (by decide)
  have hs14 : sc5 18 = sc 18 := by rw [hd7]; exact u1_o (by decide)
  have hs15 : sc5 38 = sc 38 := by rw [hd7]; exact u1_o (by decide)
  have hs16 : sc5 40 = sc 40 := by rw [hd7]; exact u1_o (by decide)
  have hs17 : sc5 41 = sc 41 := by rw [hd7]; exact u1_o (by decide)
  have hs18 : sc5 42 = sc 42 := by rw [hd7]; exact u1_o (by decide)
  have hF19 : fr [0, 10, 11, 12, 13, 14, 15, 16, 18, 27, 28, 38, 40, 41, 42] [252, 253, 254, 255, 256, 257, 258, 259, 260, 261] 16 70 sc ai al az sc5 ai al az := fr_s hF0 hd7 rfl
  have hI20 : gi sc5 ai al az := gi_s hI hd7 (by decide) (by decide) (by decide)
  have hR21 := ri2_fr hR hK (fr_s (X := [0]) (Y := []) (lo := 1) (hi := 0) (fr_0 _ _ _ _ sc ai al az) hd7 rfl) rfl rfl rfl rfl rfl rfl rfl rfl rfl (by omega)
  have hS22 := sjk_fr hR.1 hK (fr_s (X := [0]) (Y := []) (lo := 1) (hi := 0) (fr_0 _ _ _ _ sc ai al az) hd7 rfl) rfl rfl
  refine w_kI e102_5 ?_
  refine w_stI (j := 1) (A1 := [some (.ref 238), some (.int (vz 0)), none, none, none]) e102_6 (fun _ => rfl) (by decide) rfl ?_
  refine w_kI e102_7 ?_
  refine w_stI (j := 2) (A1 := [some (.ref 238), some (.int (vz 0)), some (.int (vz 0)), none, none]) e102_8 (fun _ => rfl) (by decide) rfl ?_
  exact w_sub (A1 := [some (.ref 238), some (.int (vz 0)), some (.int (vz 0)), none, none]) (And.intro rfl (And.intro rfl (And.intro rfl trivial))) (((c102_L (sc := sc) (ai := ai) (al := al) (az := az) (v0 := v0) hK hI hR _).1) v4 sc5 0 0 hM6 hK hI20 hF19 (by omega) (by omega) hR21 (by omega) (Nat.lt_succ_self _))
set_option maxRecDepth 100000 in
set_option maxHeartbeats 4000000 in
theorem c104_L {sc : Nat → Int} {ai : Nat → Nat → Int} {al : Nat → Nat → Int64} {az : Nat → Nat → Int32} {v0 : vm_H} (hK0 : tmok ai) (hI : gi sc ai al az) {i1 : Int} (hi_1 : -2147483648 ≤ i1 ∧ i1 < 2147483648) (hR : ri2 sc ai al az) : ∀ N : Nat, (∀ (vh : vm_H) (sc_ : Nat → Int) (ai_ : Nat → Nat → Int) (al_ : Nat → Nat → Int64) (az_ : Nat → Nat → Int32) (x2 : Int), (tm sc_ ai_ al_ az_ v0 vh) → (tmok ai_) → (gi sc_ ai_ al_ az_) → (fr [0, 12, 17, 18, 19, 25, 27, 28, 38, 40, 41] [246, 247, 248, 249, 250, 251, 252, 253, 254, 255, 256, 257, 258, 259, 260, 261] 67 70 sc ai al az sc_ ai_ al_ az_) → (0 ≤ x2 ∧ x2 ≤ sc_ 11) → (ri2 sc_ ai_ al_ az_) → (b58 ai_ x2) → (sc_ 40 = sc_ 11 ∧ (0 ≤ sc_ 11 ∧ sc_ 11 ≤ 8)) → ((100000 + 8 - x2 : Int).toNat < N) → vm_Wp 6 157 104 39 [some (.ref 238), some (.int (vz i1)), some (.int (vz x2)), none] [] vh (vq_P 104 (fun r v1 => (∃ (sc1 : Nat → Int) (ai1 : Nat → Nat → Int) (al1 : Nat → Nat → Int64) (az1 : Nat → Nat → Int32), tm sc1 ai1 al1 az1 v0 v1 ∧ tmok ai1 ∧ gi sc1 ai1 al1 az1 ∧ fr [0, 12, 17, 18, 19, 25, 27, 28, 38, 40, 41] [246, 247, 248, 249, 250, 251, 252, 253, 254, 255, 256, 257, 258, 259, 260, 261] 67 70 sc ai al az sc1 ai1 al1 az1 ∧ (ri2 sc1 ai1 al1 az1)) ∧ ∃ q : Int, (-1 ≤ q ∧ q ≤ 2) ∧ r = some (.int (vz q))))) ∧ (∀ (vh : vm_H) (sc_ : Nat → Int) (ai_ : Nat → Nat → Int) (al_ : Nat → Nat → Int64) (az_ : Nat → Nat → Int32) (x3 : Int), (tm sc_ ai_ al_ az_ v0 vh) → (tmok ai_) → (gi sc_ ai_ al_ az_) → (fr [0, 12, 17, 18, 19, 25, 27, 28, 38, 40, 41] [246, 247, 248, 249, 250, 251, 252, 253, 254, 255, 256, 257, 258, 259, 260, 261] 67 70 sc ai al az sc_ ai_ al_ az_) → (0 ≤ x3 ∧ x3 ≤ 8) → (sj sc_ ai_) → (mb sc_ ai_ al_ az_ (sc_ 11)) → (nk sc_ ai_ (sc_ 11)) → ((0 ≤ sc_ 11 ∧ sc_ 11 ≤ 8) ∧ sc_ 19 = sc_ 27 ∧ sc_ 25 = sc_ 28) → ((50000 + 8 - x3 : Int).toNat < N) → vm_Wp 6 157 104 132 [some (.ref 238), some (.int (vz i1)), none, some (.int (vz x3))] [] vh (vq_P 104 (fun r v1 => (∃ (sc1 : Nat → Int) (ai1 : Nat → Nat → Int) (al1 : Nat → Nat → Int64) (az1 : Nat → Nat → Int32), tm sc1 ai1 al1 az1 v0 v1 ∧ tmok ai1 ∧ gi sc1 ai1 al1 az1 ∧ fr [0, 12, 17, 18, 19, 25, 27, 28, 38, 40, 41] [246, 247, 248, 249, 250, 251, 252, 253, 254, 255, 256, 257, 258, 259, 260, 261] 67 70 sc ai al az sc1 ai1 al1 az1 ∧ (ri2 sc1 ai1 al1 az1)) ∧ ∃ q : Int, (-1 ≤ q ∧ q ≤ 2) ∧ r = some (.int (vz q))))) ∧ (∀ (vh : vm_H) (sc_ : Nat → Int) (ai_ : Nat → Nat → Int) (al_ : Nat → Nat → Int64) (az_ : Nat → Nat → Int32) (x3 : Int), (tm sc_ ai_ al_ az_ v0 vh) → (tmok ai_) → (gi sc_ ai_ al_ az_) → (fr [0, 12, 17, 18, 19, 25, 27, 28, 38, 40, 41] [246, 247, 248, 249, 250, 251, 252, 253, 254, 255, 256, 257, 258, 259, 260, 261] 67 70 sc ai al az sc_ ai_ al_ az_) → (0 ≤ x3 ∧ x3 ≤ sc_ 19) → (sj sc_ ai_) → (mb sc_ ai_ al_ az_ (sc_ 11)) → (nk sc_ ai_ (sc_ 11)) → (pk2 ai_ (sc_ 11) x3) → ((0 ≤ sc_ 11 ∧ sc_ 11 ≤ 8) ∧ sc_ 19 = sc_ 27 ∧ sc_ 25 = sc_ 28) → ((40000 + 300 - x3 : Int).toNat < N) → vm_Wp 6 157 104 153 [some (.ref 238), some (.int (vz i1)), none, some (.int (vz x3))] [] vh (vq_P 104 (fun r v1 => (∃ (sc1 : Nat → Int) (ai1 : Nat → Nat → Int) (al1 : Nat → Nat → Int64) (az1 : Nat → Nat → Int32), tm sc1 ai1 al1 az1 v0 v1 ∧ tmok ai1 ∧ gi sc1 ai1 al1 az1 ∧ fr [0, 12, 17, 18, 19, 25, 27, 28, 38, 40, 41] [246, 247, 248, 249, 250, 251, 252, 253, 254, 255, 256, 257, 258, 259, 260, 261] 67 70 sc ai al az sc1 ai1 al1 az1 ∧ (ri2 sc1 ai1 al1 az1)) ∧ ∃ q : Int, (-1 ≤ q ∧ q ≤ 2) ∧ r = some (.int (vz q))))) ∧ (∀ (vh : vm_H) (sc_ : Nat → Int) (ai_ : Nat → Nat → Int) (al_ : Nat → Nat → Int64) (az_ : Nat → Nat → Int32) (x3 : Int), (tm sc_ ai_ al_ az_ v0 vh) → (tmok ai_) → (gi sc_ ai_ al_ az_) → (fr [0, 12, 17, 18, 19, 25, 27, 28, 38, 40, 41] [246, 247, 248, 249, 250, 251, 252, 253, 254, 255, 256, 257, 258, 259, 260, 261] 67 70 sc ai al az sc_ ai_ al_ az_) → (0 ≤ x3 ∧ x3 ≤ 12300) → (sj sc_ ai_) → (mb sc_ ai_ al_ az_ (sc_ 11)) → (nk sc_ ai_ (sc_ 11)) → (pk2 ai_ (sc_ 11) (sc_ 19)) → ((0 ≤ sc_ 11 ∧ sc_ 11 ≤ 8) ∧ sc_ 19 = sc_ 27 ∧ sc_ 25 = sc_ 28) → ((20000 - x3 : Int).toNat < N) → vm_Wp 6 157 104 220 [some (.ref 238), some (.int (vz i1)), none, some (.int (vz x3))] [] vh (vq_P 104 (fun r v1 => (∃ (sc1 : Nat → Int) (ai1 : Nat → Nat → Int) (al1 : Nat → Nat → Int64) (az1 : Nat → Nat → Int32), tm sc1 ai1 al1 az1 v0 v1 ∧ tmok ai1 ∧ gi sc1 ai1 al1 az1 ∧ fr [0, 12, 17, 18, 19, 25, 27, 28, 38, 40, 41] [246, 247, 248, 249, 250, 251, 252, 253, 254, 255, 256, 257, 258, 259, 260, 261] 67 70 sc ai al az sc1 ai1 al1 az1 ∧ (ri2 sc1 ai1 al1 az1)) ∧ ∃ q : Int, (-1 ≤ q ∧ q ≤ 2) ∧ r = some (.int (vz q))))) := by
  have hF0 : fr [0, 12, 17, 18, 19, 25, 27, 28, 38, 40, 41] [246, 247, 248, 249, 250, 251, 252, 253, 254, 255, 256, 257, 258, 259, 260, 261] 67 70 sc ai al az sc ai al az := fr_0 _ _ _ _ _ _ _ _
  intro N
  induction N with
  | zero => exact ⟨by intros; omega, by intros; omega, by intros; omega, by intros; omega⟩
  | succ N ih =>
    refine ⟨?_, ?_, ?_, ?_⟩
    ·
      intro vh sc_ ai_ al_ az_ x2 hM hK hJ hF hx2 hi0 hi1 hi2 hN
      have hn8 := hJ.1.1
      refine w_ldI e104_39 (fun _ => rfl) rfl ?_
      refine w_ldA e104_40 (fun _ => rfl) rfl ?_
      have e82 := tm_o hM
      refine w_get e104_41 e82 rfl ?_
      refine w_ic e104_44 (by omega) (tm_s hM 11) (fun (h83 : sc_ 11 ≤ x2) => ?_) (fun (h83 : x2 < sc_ 11) => ?_)
      ·
        refine w_ldA e104_63 (fun _ => rfl) rfl ?_
        refine w_kI e104_64 ?_
        refine w_put e104_65 e82 (Nat.le_of_ble_eq_true rfl) rfl (fun v86 b84 h85 => ?_)
        obtain ⟨sc87, hd89, hM88⟩ : ∃ z, z = u1 sc_ 27 (0) ∧ tm z ai_ al_ az_ v0 v86 := ⟨_, rfl, tm_ps 27 hM (by omega) b84 h85⟩
        have hs90 : sc87 0 = sc_ 0 := by rw [hd89]; exact u1_o (by decide)
        have hs91 : sc87 1 = sc_ 1 := by rw [hd89]; exact u1_o (by decide)
        have hs92 : sc87 4 = sc_ 4 := by rw [hd89]; exact u1_o (by decide)
        have hs93 : sc87 11 = sc_ 11 := by rw [hd89]; exact u1_o (by decide)
        have hs94 : sc87 18 = sc_ 18 := by rw [hd89]; exact u1_o (by decide)
        have hs95 : sc87 19 = sc_ 19 := by rw [hd89]; exact u1_o (by decide)
        have hs96 : sc87 25 = sc_ 25 := by rw [hd89]; exact u1_o (by decide)
        have hs97 : sc87 27 = 0 := by rw [hd89]; exact u1_s
        have hs98 : sc87 28 = sc_ 28 := by rw [hd89]; exact u1_o (by decide)
        have hs99 : sc87 38 = sc_ 38 := by rw [hd89]; exact u1_o (by decide)
        have hs100 : sc87 40 = sc_ 40 := by rw [hd89]; exact u1_o (by decide)
        have hs101 : sc87 41 = sc_ 41 := by rw [hd89]; exact u1_o (by decide)
        have hF102 : fr [0, 12, 17, 18, 19, 25, 27, 28, 38, 40, 41] [246, 247, 248, 249, 250, 251, 252, 253, 254, 255, 256, 257, 258, 259, 260, 261] 67 70 sc ai al az sc87 ai_ al_ az_ := fr_s hF hd89 rfl
        have hI103 : gi sc87 ai_ al_ az_ := gi_s hJ hd89 (by decide) (by decide) (by decide)
        have hR104 := ri2_fr hi0 hK (fr_s (X := [27]) (Y := []) (lo := 1) (hi := 0) (fr_0 _ _ _ _ sc_ ai_ al_ az_) hd89 rfl) rfl rfl rfl rfl rfl rfl rfl rfl rfl (by omega)
        have hS105 := sjk_fr hi0.1 hK (fr_s (X := [27]) (Y := []) (lo := 1) (hi := 0) (fr_0 _ _ _ _ sc_ ai_ al_ az_) hd89 rfl) rfl rfl
        refine w_ldA e104_68 (fun _ => rfl) rfl ?_
        refine w_kI e104_69 ?_
        have e106 := tm_o hM88
        refine w_put e104_70 e106 (Nat.le_of_ble_eq_true rfl) rfl (fun v109 b107 h108 => ?_)
        obtain ⟨sc110, hd112, hM111⟩ : ∃ z, z = u1 sc87 28 (0) ∧ tm z ai_ al_ az_ v0 v109 := ⟨_, rfl, tm_ps 28 hM88 (by omega) b107 h108⟩
        have hs113 : sc110 0 = sc87 0 := by rw [hd112]; exact u1_o (by decide)
        have hs114 : sc110 1 = sc87 1 := by rw [hd112]; exact u1_o (by decide)
        have hs115 : sc110 4 = sc87 4 := by rw [hd112]; exact u1_o (by decide)
        have hs116 : sc110 11 = sc87 11 := by rw [hd112]; exact u1_o (by decide)
        have hs117 : sc110 18 = sc87 18 := by rw [hd112]; exact u1_o (by decide)
        have hs118 : sc110 19 = sc87 19 := by rw [hd112]; exact u1_o (by decide)
        have hs119 : sc110 25 = sc87 25 := by rw [hd112]; exact u1_o (by decide)
        have hs120 : sc110 27 = sc87 27 := by rw [hd112]; exact u1_o (by decide)
        have hs121 : sc110 28 = 0 := by rw [hd112]; exact u1_s
        have hs122 : sc110 38 = sc87 38 := by rw [hd112]; exact u1_o (by decide)
        have hs123 : sc110 40 = sc87 40 := by rw [hd112]; exact u1_o (by decide)
        have hs124 : sc110 41 = sc87 41 := by rw [hd112]; exact u1_o (by decide)
        have hF125 : fr [0, 12, 17, 18, 19, 25, 27, 28, 38, 40, 41] [246, 247, 248, 249, 250, 251, 252, 253, 254, 255, 256, 257, 258, 259, 260, 261] 67 70 sc ai al az sc110 ai_ al_ az_ := fr_s hF102 hd112 rfl
        have hI126 : gi sc110 ai_ al_ az_ := gi_s hI103 hd112 (by decide) (by decide) (by decide)
        have hR127 := ri2_fr hR104 hK (fr_s (X := [28]) (Y := []) (lo := 1) (hi := 0) (fr_0 _ _ _ _ sc87 ai_ al_ az_) hd112 rfl) rfl rfl rfl rfl rfl rfl rfl rfl rfl (by omega)
        have hS128 := sjk_fr hS105 hK (fr_s (X := [28]) (Y := []) (lo := 1) (hi := 0) (fr_0 _ _ _ _ sc87 ai_ al_ az_) hd112 rfl) rfl rfl
        refine w_ldA e104_73 (fun _ => rfl) rfl ?_
        refine w_kI e104_74 ?_
        refine w_kS e104_75 rfl ?_
        have e129 := tm_o hM111
        refine w_cv e104_78 (by decide) rfl e129 rfl (Nat.le_of_ble_eq_true rfl) (Nat.le_of_ble_eq_true rfl) (Nat.le_of_ble_eq_true rfl) (by decide) (by decide) (c93 hM111 hK hI126 (by omega) (by omega) (by omega) (bs_n (bs_mb hR127.2.1.2 (by omega) (fun m hm => hi1 m (by omega))) (by omega)) (Or.inr ⟨by omega, by omega⟩)) (fun o130 v131 hq132 => ?_)
        obtain ⟨⟨sc133, ai134, al135, az136, hM137, hK138, hI139, hG140, hE141⟩, q142, h143, rfl⟩ := hq132
        have hs144 : sc133 0 = sc110 0 := hG140.1 0 rfl
        have hs145 : sc133 1 = sc110 1 := hG140.1 1 rfl
        have hs146 : sc133 4 = sc110 4 := hG140.1 4 rfl
        have hs147 : sc133 11 = sc110 11 := hG140.1 11 rfl
        have hs148 : sc133 18 = sc110 18 := hG140.1 18 rfl
        have hs149 : sc133 19 = sc110 19 := hG140.1 19 rfl
        have hs150 : sc133 25 = sc110 25 := hG140.1 25 rfl
        have hs151 : sc133 40 = sc110 40 := hG140.1 40 rfl
        have hF152 : fr [0, 12, 17, 18, 19, 25, 27, 28, 38, 40, 41] [246, 247, 248, 249, 250, 251, 252, 253, 254, 255, 256, 257, 258, 259, 260, 261] 67 70 sc ai al az sc133 ai134 al135 az136 := fr_t hF125 hG140 rfl rfl (by omega)
        have hR153 := ri2_fr hR127 hK hG140 rfl rfl rfl rfl rfl rfl rfl rfl rfl (by omega)
        have hS154 := sjk_fr hS128 hK hG140 rfl rfl
        have hr155 := hE141.1
        have hN156 := hE141.2.resolve_left (by decide)
        have hn157 := hN156.1
        refine w_stI (j := 2) (A1 := [some (.ref 238), some (.int (vz i1)), some (.int (vz q142)), none]) e104_81 (fun _ => rfl) (by decide) rfl ?_
        refine w_ldA e104_82 (fun _ => rfl) rfl ?_
        refine w_ldA e104_83 (fun _ => rfl) rfl ?_
        have e158 := tm_o hM137
        refine w_get e104_84 e158 rfl ?_
        refine w_put e104_87 e158 (Nat.le_of_ble_eq_true rfl) rfl (fun v161 b159 h160 => ?_)
        obtain ⟨sc162, hd164, hM163⟩ : ∃ z, z = u1 sc133 17 (sc133 41) ∧ tm z ai134 al135 az136 v0 v161 := ⟨_, rfl, tm_ps 17 hM137 (tm_s hM137 41) b159 h160⟩
        have hs165 : sc162 0 = sc133 0 := by rw [hd164]; exact u1_o (by decide)
        have hs166 : sc162 1 = sc133 1 := by rw [hd164]; exact u1_o (by decide)
        have hs167 : sc162 4 = sc133 4 := by rw [hd164]; exact u1_o (by decide)
        have hs168 : sc162 11 = sc133 11 := by rw [hd164]; exact u1_o (by decide)
        have hs169 : sc162 18 = sc133 18 := by rw [hd164]; exact u1_o (by decide)
        have hs170 : sc162 19 = sc133 19 := by rw [hd164]; exact u1_o (by decide)
        have hs171 : sc162 25 = sc133 25 := by rw [hd164]; exact u1_o (by decide)
        have hs172 : sc162 27 = sc133 27 := by rw [hd164]; exact u1_o (by decide)
        have hs173 : sc162 28 = sc133 28 := by rw [hd164]; exact u1_o (by decide)
        have hs174 : sc162 38 = sc133 38 := by rw [hd164]; exact u1_o (by decide)
        have hs175 : sc162 40 = sc133 40 := by rw [hd164]; exact u1_o (by decide)
        have hs176 : sc162 41 = sc133 41 := by rw [hd164]; exact u1_o (by decide)
        have hF177 : fr [0, 12, 17, 18, 19, 25, 27, 28, 38, 40, 41] [246, 247, 248, 249, 250, 251, 252, 253, 254, 255, 256, 257, 258, 259, 260, 261] 67 70 sc ai al az sc162 ai134 al135 az136 := fr_s hF152 hd164 rfl
        have hI178 : gi sc162 ai134 al135 az136 := gi_s hI139 hd164 (by decide) (by decide) (by decide)
        have hR179 := ri2_fr hR153 hK138 (fr_s (X := [17]) (Y := []) (lo := 1) (hi := 0) (fr_0 _ _ _ _ sc133 ai134 al135 az136) hd164 rfl) rfl rfl rfl rfl rfl rfl rfl rfl rfl (by omega)
        have hS180 := sjk_fr hS154 hK138 (fr_s (X := [17]) (Y := []) (lo := 1) (hi := 0) (fr_0 _ _ _ _ sc133 ai134 al135 az136) hd164 rfl) rfl rfl
        have hN181 := nk_fr hN156 hK138 (fr_s (X := [17]) (Y := []) (lo := 1) (hi := 0) (fr_0 _ _ _ _ sc133 ai134 al135 az136) hd164 rfl) rfl rfl rfl rfl rfl
        refine w_ldA e104_90 (fun _ => rfl) rfl ?_
        refine w_ldI e104_91 (fun _ => rfl) rfl ?_
        have e182 := tm_o hM163
        refine w_put e104_92 e182 (Nat.le_of_ble_eq_true rfl) (vz_okz (by omega)) (fun v185 b183 h184 => ?_)
        obtain ⟨sc186, hd188, hM187⟩ : ∃ z, z = u1 sc162 12 (q142) ∧ tm z ai134 al135 az136 v0 v185 := ⟨_, rfl, tm_ps 12 hM163 (by omega) b183 h184⟩
        have hs189 : sc186 0 = sc162 0 := by rw [hd188]; exact u1_o (by decide)
        have hs190 : sc186 1 = sc162 1 := by rw [hd188]; exact u1_o (by decide)
        have hs191 : sc186 4 = sc162 4 := by rw [hd188]; exact u1_o (by decide)
        have hs192 : sc186 11 = sc162 11 := by rw [hd188]; exact u1_o (by decide)
        have hs193 : sc186 18 = sc162 18 := by rw [hd188]; exact u1_o (by decide)
        have hs194 : sc186 19 = sc162 19 := by rw [hd188]; exact u1_o (by decide)
        have hs195 : sc186 25 = sc162 25 := by rw [hd188]; exact u1_o (by decide)
        have hs196 : sc186 27 = sc162 27 := by rw [hd188]; exact u1_o (by decide)
        have hs197 : sc186 28 = sc162 28 := by rw [hd188]; exact u1_o (by decide)
        have hs198 : sc186 38 = sc162 38 := by rw [hd188]; exact u1_o (by decide)
        have hs199 : sc186 40 = sc162 40 := by rw [hd188]; exact u1_o (by decide)
        have hs200 : sc186 41 = sc162 41 := by rw [hd188]; exact u1_o (by decide)
        have hF201 : fr [0, 12, 17, 18, 19, 25, 27, 28, 38, 40, 41] [246, 247, 248, 249, 250, 251, 252, 253, 254, 255, 256, 257, 258, 259, 260, 261] 67 70 sc ai al az sc186 ai134 al135 az136 := fr_s hF177 hd188 rfl
        have hI202 : gi sc186 ai134 al135 az136 := gi_s hI178 hd188 (by decide) (by decide) (by decide)
        have hR203 := ri2_fr hR179 hK138 (fr_s (X := [12]) (Y := []) (lo := 1) (hi := 0) (fr_0 _ _ _ _ sc162 ai134 al135 az136) hd188 rfl) rfl rfl rfl rfl rfl rfl rfl rfl rfl (by omega)
        have hS204 := sjk_fr hS180 hK138 (fr_s (X := [12]) (Y := []) (lo := 1) (hi := 0) (fr_0 _ _ _ _ sc162 ai134 al135 az136) hd188 rfl) rfl rfl
        have hN205 := nk_fr hN181 hK138 (fr_s (X := [12]) (Y := []) (lo := 1) (hi := 0) (fr_0 _ _ _ _ sc162 ai134 al135 az136) hd188 rfl) rfl rfl rfl rfl rfl
        refine w_ldI e104_95 (fun _ => rfl) rfl ?_
        refine w_if e104_96 (by omega) (fun (h206 : q142 ≠ 0) => ?_) (fun (h206 : q142 = 0) => ?_)
        ·
          refine w_ldA e104_101 (fun _ => rfl) rfl ?_
          refine w_kB e104_102 rfl ?_
          refine w_kB e104_104 rfl ?_
          have e207 := tm_o hM187
          refine w_cv e104_106 (by decide) rfl e207 rfl (Nat.le_of_ble_eq_true rfl) (Nat.le_of_ble_eq_true rfl) (Nat.le_of_ble_eq_true rfl) (by decide) (by decide) (k81 hM187 hK138 hI202 (by omega) (by omega) (by omega)) (fun o208 v209 hq210 => ?_)
          obtain ⟨⟨sc211, ai212, al213, az214, hM215, hK216, hI217, hG218, hE219⟩, rfl⟩ := hq210
          have hs220 : sc211 0 = sc186 0 := hG218.1 0 rfl
          have hs221 : sc211 1 = sc186 1 := hG218.1 1 rfl
          have hs222 : sc211 4 = sc186 4 := hG218.1 4 rfl
          have hs223 : sc211 11 = sc186 11 := hG218.1 11 rfl
          have hs224 : sc211 18 = sc186 18 := hG218.1 18 rfl
          have hs225 : sc211 19 = sc186 19 := hG218.1 19 rfl
          have hs226 : sc211 25 = sc186 25 := hG218.1 25 rfl
          have hs227 : sc211 27 = sc186 27 := hG218.1 27 rfl
          have hs228 : sc211 28 = sc186 28 := hG218.1 28 rfl
          have hs229 : sc211 38 = sc186 38 := hG218.1 38 rfl
          have hs230 : sc211 40 = sc186 40 := hG218.1 40 rfl
          have hs231 : sc211 41 = sc186 41 := hG218.1 41 rfl
          have hF232 : fr [0, 12, 17, 18, 19, 25, 27, 28, 38, 40, 41] [246, 247, 248, 249, 250, 251, 252, 253, 254, 255, 256, 257, 258, 259, 260, 261] 67 70 sc ai al az sc211 ai212 al213 az214 := fr_t hF201 hG218 rfl rfl (by omega)
          have hR233 := ri2_fr hR203 hK138 hG218 rfl rfl rfl rfl rfl rfl rfl rfl rfl (by omega)
          have hS234 := sjk_fr hS204 hK138 hG218 rfl rfl
          have hN235 := nk_fr hN205 hK138 hG218 rfl rfl rfl rfl rfl
          have hMb236 := hR233.2.1.2
          have hm237 := hR233.2.1.1
          have hn238 := hN235.1
          refine w_ldA e104_109 (fun _ => rfl) rfl ?_
          refine w_kI e104_110 ?_
          have e239 := tm_o hM215
          refine w_put e104_111 e239 (Nat.le_of_ble_eq_true rfl) (vz_okz (by omega)) (fun v242 b240 h241 => ?_)
          obtain ⟨sc243, hd245, hM244⟩ : ∃ z, z = u1 sc211 18 (1) ∧ tm z ai212 al213 az214 v0 v242 := ⟨_, rfl, tm_ps 18 hM215 (by omega) b240 h241⟩
          have hs246 : sc243 0 = sc211 0 := by rw [hd245]; exact u1_o (by decide)
          have hs247 : sc243 1 = sc211 1 := by rw [hd245]; exact u1_o (by decide)
          have hs248 : sc243 4 = sc211 4 := by rw [hd245]; exact u1_o (by decide)
          have hs249 : sc243 11 = sc211 11 := by rw [hd245]; exact u1_o (by decide)
          have hs250 : sc243 18 = 1 := by rw [hd245]; exact u1_s
          have hs251 : sc243 19 = sc211 19 := by rw [hd245]; exact u1_o (by decide)
          have hs252 : sc243 25 = sc211 25 := by rw [hd245]; exact u1_o (by decide)
          have hs253 : sc243 27 = sc211 27 := by rw [hd245]; exact u1_o (by decide)
          have hs254 : sc243 28 = sc211 28 := by rw [hd245]; exact u1_o (by decide)
          have hs255 : sc243 38 = sc211 38 := by rw [hd245]; exact u1_o (by decide)
          have hs256 : sc243 40 = sc211 40 := by rw [hd245]; exact u1_o (by decide)
          have hs257 : sc243 41 = sc211 41 := by rw [hd245]; exact u1_o (by decide)
          have hF258 : fr [0, 12, 17, 18, 19, 25, 27, 28, 38, 40, 41] [246, 247, 248, 249, 250, 251, 252, 253, 254, 255, 256, 257, 258, 259, 260, 261] 67 70 sc ai al az sc243 ai212 al213 az214 := fr_s hF232 hd245 rfl
          have hI259 : gi sc243 ai212 al213 az214 := gi_s hI217 hd245 (by decide) (by decide) (by decide)
          have hS260 := sjk_fr hS234 hK216 (fr_s (X := [18]) (Y := []) (lo := 1) (hi := 0) (fr_0 _ _ _ _ sc211 ai212 al213 az214) hd245 rfl) rfl rfl
          have hMb261 := mb_fr hMb236 hK216 (fr_s (X := [18]) (Y := []) (lo := 1) (hi := 0) (fr_0 _ _ _ _ sc211 ai212 al213 az214) hd245 rfl) rfl rfl rfl (by omega)
          have hN262 := nk_fr hN235 hK216 (fr_s (X := [18]) (Y := []) (lo := 1) (hi := 0) (fr_0 _ _ _ _ sc211 ai212 al213 az214) hd245 rfl) rfl rfl rfl rfl rfl
          refine w_ldA e104_114 (fun _ => rfl) rfl ?_
          refine w_ldA e104_115 (fun _ => rfl) rfl ?_
          have e263 := tm_o hM244
          refine w_get e104_116 e263 rfl ?_
          refine w_put e104_119 e263 (Nat.le_of_ble_eq_true rfl) rfl (fun v266 b264 h265 => ?_)
          obtain ⟨sc267, hd269, hM268⟩ : ∃ z, z = u1 sc243 19 (sc243 27) ∧ tm z ai212 al213 az214 v0 v266 := ⟨_, rfl, tm_ps 19 hM244 (tm_s hM244 27) b264 h265⟩
          have hs270 : sc267 0 = sc243 0 := by rw [hd269]; exact u1_o (by decide)
          have hs271 : sc267 1 = sc243 1 := by rw [hd269]; exact u1_o (by decide)
          have hs272 : sc267 4 = sc243 4 := by rw [hd269]; exact u1_o (by decide)
          have hs273 : sc267 11 = sc243 11 := by rw [hd269]; exact u1_o (by decide)
          have hs274 : sc267 18 = sc243 18 := by rw [hd269]; exact u1_o (by decide)
          have hs275 : sc267 19 = sc243 27 := by rw [hd269]; exact u1_s
          have hs276 : sc267 25 = sc243 25 := by rw [hd269]; exact u1_o (by decide)
          have hs277 : sc267 27 = sc243 27 := by rw [hd269]; exact u1_o (by decide)
          have hs278 : sc267 28 = sc243 28 := by rw [hd269]; exact u1_o (by decide)
          have hs279 : sc267 38 = sc243 38 := by rw [hd269]; exact u1_o (by decide)
          have hs280 : sc267 40 = sc243 40 := by rw [hd269]; exact u1_o (by decide)
          have hs281 : sc267 41 = sc243 41 := by rw [hd269]; exact u1_o (by decide)
          have hF282 : fr [0, 12, 17, 18, 19, 25, 27, 28, 38, 40, 41] [246, 247, 248, 249, 250, 251, 252, 253, 254, 255, 256, 257, 258, 259, 260, 261] 67 70 sc ai al az sc267 ai212 al213 az214 := fr_s hF258 hd269 rfl
          have hI283 : gi sc267 ai212 al213 az214 := gi_s hI259 hd269 (by decide) (by decide) (by decide)
          have hS284 := sjk_fr hS260 hK216 (fr_s (X := [19]) (Y := []) (lo := 1) (hi := 0) (fr_0 _ _ _ _ sc243 ai212 al213 az214) hd269 rfl) rfl rfl
          have hMb285 := mb_fr hMb261 hK216 (fr_s (X := [19]) (Y := []) (lo := 1) (hi := 0) (fr_0 _ _ _ _ sc243 ai212 al213 az214) hd269 rfl) rfl rfl rfl (by omega)
          have hN286 := nk_fr hN262 hK216 (fr_s (X := [19]) (Y := []) (lo := 1) (hi := 0) (fr_0 _ _ _ _ sc243 ai212 al213 az214) hd269 rfl) rfl rfl rfl rfl rfl
          refine w_ldA e104_122 (fun _ => rfl) rfl ?_
          refine w_ldA e104_123 (fun _ => rfl) rfl ?_
          have e287 := tm_o hM268
          refine w_get e104_124 e287 rfl ?_
          refine w_put e104_127 e287 (Nat.le_of_ble_eq_true rfl) rfl (fun v290 b288 h289 => ?_)
          obtain ⟨sc291, hd293, hM292⟩ : ∃ z, z = u1 sc267 25 (sc267 28) ∧ tm z ai212 al213 az214 v0 v290 := ⟨_, rfl, tm_ps 25 hM268 (tm_s hM268 28) b288 h289⟩
          have hs294 : sc291 0 = sc267 0 := by rw [hd293]; exact u1_o (by decide)
          have hs295 : sc291 1 = sc267 1 := by rw [hd293]; exact u1_o (by decide)
          have hs296 : sc291 4 = sc267 4 := by rw [hd293]; exact u1_o (by decide)
          have hs297 : sc291 11 = sc267 11 := by rw [hd293]; exact u1_o (by decide)
          have hs298 : sc291 18 = sc267 18 := by rw [hd293]; exact u1_o (by decide)
          have hs299 : sc291 19 = sc267 19 := by rw [hd293]; exact u1_o (by decide)
          have hs300 : sc291 25 = sc267 28 := by rw [hd293]; exact u1_s
          have hs301 : sc291 27 = sc267 27 := by rw [hd293]; exact u1_o (by decide)
          have hs302 : sc291 28 = sc267 28 := by rw [hd293]; exact u1_o (by decide)
          have hs303 : sc291 38 = sc267 38 := by rw [hd293]; exact u1_o (by decide)
          have hs304 : sc291 40 = sc267 40 := by rw [hd293]; exact u1_o (by decide)
          have hs305 : sc291 41 = sc267 41 := by rw [hd293]; exact u1_o (by decide)
          have hF306 : fr [0, 12, 17, 18, 19, 25, 27, 28, 38, 40, 41] [246, 247, 248, 249, 250, 251, 252, 253, 254, 255, 256, 257, 258, 259, 260, 261] 67 70 sc ai al az sc291 ai212 al213 az214 := fr_s hF282 hd293 rfl
          have hI307 : gi sc291 ai212 al213 az214 := gi_s hI283 hd293 (by decide) (by decide) (by decide)
          have hS308 := sjk_fr hS284 hK216 (fr_s (X := [25]) (Y := []) (lo := 1) (hi := 0) (fr_0 _ _ _ _ sc267 ai212 al213 az214) hd293 rfl) rfl rfl
          have hMb309 := mb_fr hMb285 hK216 (fr_s (X := [25]) (Y := []) (lo := 1) (hi := 0) (fr_0 _ _ _ _ sc267 ai212 al213 az214) hd293 rfl) rfl rfl rfl (by omega)
          have hN310 := nk_fr hN286 hK216 (fr_s (X := [25]) (Y := []) (lo := 1) (hi := 0) (fr_0 _ _ _ _ sc267 ai212 al213 az214) hd293 rfl) rfl rfl rfl rfl rfl
          refine w_kI e104_130 ?_
          refine w_stI (j := 3) (A1 := [some (.ref 238), some (.int (vz i1)), some (.int (vz q142)), some (.int (vz 0))]) e104_131 (fun _ => rfl) (by decide) rfl ?_
          exact w_sub (A1 := [some (.ref 238), some (.int (vz i1)), none, some (.int (vz 0))]) (And.intro rfl (And.intro rfl (And.intro rfl trivial))) ((ih.2.1) v290 sc291 ai212 al213 az214 0 hM292 hK216 hI307 hF306 (by omega) hS308 (mb_n hMb309 (by omega)) (nk_n hN310 (by omega)) (by omega) (by omega))
        ·
          refine w_kI e104_99 ?_
          exact w_ri e104_100 rfl ⟨⟨sc186, ai134, al135, az136, hM187, hK138, hI202, hF201, hR203⟩, 2, (by omega), rfl⟩
      ·
        refine w_ldA e104_47 (fun _ => rfl) rfl ?_
        refine w_get e104_48 e82 rfl ?_
        refine w_ldI e104_51 (fun _ => rfl) rfl ?_
        refine w_kB e104_52 rfl ?_
        refine w_ldI e104_54 (fun _ => rfl) rfl ?_
        refine w_iadd e104_55 ?_
        have e311 := tm_i hM (a := 261) (n := 8) rfl
        refine w_ast e104_56 e311 (by omega) (by omega) (by decide) (by decide) (fun v314 b312 h313 => ?_)
        obtain ⟨ai315, hd317, hM316⟩ : ∃ z, z = u2 ai_ 261 (x2).toNat (58 + x2) ∧ tm sc_ z al_ az_ v0 v314 := ⟨_, rfl, tm_pi hM rfl (by omega) b312 h313⟩
        have hK318 : tmok ai315 := by rw [hd317]; exact tmok_u hK (by decide) (by decide)
        have hF319 : fr [0, 12, 17, 18, 19, 25, 27, 28, 38, 40, 41] [246, 247, 248, 249, 250, 251, 252, 253, 254, 255, 256, 257, 258, 259, 260, 261] 67 70 sc ai al az sc_ ai315 al_ az_ := fr_i hF hd317 rfl (by decide)
        have hI320 : gi sc_ ai315 al_ az_ := gi_i hJ hd317 (by decide)
        have hR321 := ri2_fr hi0 hK (fr_i (X := []) (Y := [261]) (lo := 1) (hi := 0) (fr_0 _ _ _ _ sc_ ai_ al_ az_) hd317 rfl (by decide)) rfl rfl rfl rfl rfl rfl rfl rfl rfl (by omega)
        have hS322 := sjk_fr hi0.1 hK (fr_i (X := []) (Y := [261]) (lo := 1) (hi := 0) (fr_0 _ _ _ _ sc_ ai_ al_ az_) hd317 rfl (by decide)) rfl rfl
        refine w_iinc (A1 := [some (.ref 238), some (.int (vz i1)), some (.int (vz (x2 + 1))), none]) e104_57 rfl (by decide) rfl ?_
        refine w_x e104_60 (fun _ => rfl) ?_
        exact w_sub (A1 := [some (.ref 238), some (.int (vz i1)), some (.int (vz (x2 + 1))), none]) (And.intro rfl (And.intro rfl (And.intro rfl trivial))) ((ih.1) v314 sc_ ai315 al_ az_ (x2 + 1) hM316 hK318 hI320 hF319 (by omega) hR321 (b58_add hi1 (by omega) hd317) (by omega) (by omega))
    ·
      intro vh sc_ ai_ al_ az_ x3 hM hK hJ hF hx3 hi0 hi1 hi2 hi3 hN
      have hn8 := hJ.1.1
      have hn9 := hi2.1
      refine w_ldI e104_132 (fun _ => rfl) rfl ?_
      refine w_kB e104_133 rfl ?_
      refine w_ic e104_135 (by omega) (by omega) (fun (h323 : 8 ≤ x3) => ?_) (fun (h323 : x3 < 8) => ?_)
      ·
        refine w_kI e104_151 ?_
        refine w_stI (j := 3) (A1 := [some (.ref 238), some (.int (vz i1)), none, some (.int (vz 0))]) e104_152 (fun _ => rfl) (by decide) rfl ?_
        exact w_sub (A1 := [some (.ref 238), some (.int (vz i1)), none, some (.int (vz 0))]) (And.intro rfl (And.intro rfl (And.intro rfl trivial))) ((ih.2.2.1) vh sc_ ai_ al_ az_ 0 hM hK hJ hF (by omega) hi0 (mb_n hi1 (by omega)) (nk_n hi2 (by omega)) (fun m hm => by omega) (by omega) (by omega))
      ·
        refine w_ldA e104_138 (fun _ => rfl) rfl ?_
        have e324 := tm_o hM
        refine w_get e104_139 e324 rfl ?_
        refine w_ldI e104_142 (fun _ => rfl) rfl ?_
        refine w_kI e104_143 ?_
        have e325 := tm_i hM (a := 251) (n := 8) rfl
        refine w_ast e104_144 e325 (by omega) (by omega) (by decide) (by decide) (fun v328 b326 h327 => ?_)
        obtain ⟨ai329, hd331, hM330⟩ : ∃ z, z = u2 ai_ 251 (x3).toNat 0 ∧ tm sc_ z al_ az_ v0 v328 := ⟨_, rfl, tm_pi hM rfl (by omega) b326 h327⟩
        have hK332 : tmok ai329 := by rw [hd331]; exact tmok_u hK (by decide) (by decide)
        have hF333 : fr [0, 12, 17, 18, 19, 25, 27, 28, 38, 40, 41] [246, 247, 248, 249, 250, 251, 252, 253, 254, 255, 256, 257, 258, 259, 260, 261] 67 70 sc ai al az sc_ ai329 al_ az_ := fr_i hF hd331 rfl (by decide)
        have hI334 : gi sc_ ai329 al_ az_ := gi_i hJ hd331 (by decide)
        have hS335 := sjk_fr hi0 hK (fr_i (X := []) (Y := [251]) (lo := 1) (hi := 0) (fr_0 _ _ _ _ sc_ ai_ al_ az_) hd331 rfl (by decide)) rfl rfl
        have hMb336 := mb_fr hi1 hK (fr_i (X := []) (Y := [251]) (lo := 1) (hi := 0) (fr_0 _ _ _ _ sc_ ai_ al_ az_) hd331 rfl (by decide)) rfl rfl rfl (by omega)
        have hN337 := nk_fr hi2 hK (fr_i (X := []) (Y := [251]) (lo := 1) (hi := 0) (fr_0 _ _ _ _ sc_ ai_ al_ az_) hd331 rfl (by decide)) rfl rfl rfl rfl rfl
        refine w_iinc (A1 := [some (.ref 238), some (.int (vz i1)), none, some (.int (vz (x3 + 1)))]) e104_145 rfl (by decide) rfl ?_
        refine w_x e104_148 (fun _ => rfl) ?_
        exact w_sub (A1 := [some (.ref 238), some (.int (vz i1)), none, some (.int (vz (x3 + 1)))]) (And.intro rfl (And.intro rfl (And.intro rfl trivial))) ((ih.2.1) v328 sc_ ai329 al_ az_ (x3 + 1) hM330 hK332 hI334 hF333 (by omega) hS335 (mb_n hMb336 (by omega)) (nk_n hN337 (by omega)) (by omega) (by omega))
    ·
      intro vh sc_ ai_ al_ az_ x3 hM hK hJ hF hx3 hi0 hi1 hi2 hi3 hi4 hN
      have hn8 := hJ.1.1
      have hn9 := hi2.1
      refine w_ldI e104_153 (fun _ => rfl) rfl ?_
      refine w_ldA e104_154 (fun _ => rfl) rfl ?_
      have e338 := tm_o hM
      refine w_get e104_155 e338 rfl ?_
      refine w_ic e104_158 (by omega) (tm_s hM 19) (fun (h339 : sc_ 19 ≤ x3) => ?_) (fun (h339 : x3 < sc_ 19) => ?_)
      ·
        refine w_kI e104_218 ?_
        refine w_stI (j := 3) (A1 := [some (.ref 238), some (.int (vz i1)), none, some (.int (vz 0))]) e104_219 (fun _ => rfl) (by decide) rfl ?_
        exact w_sub (A1 := [some (.ref 238), some (.int (vz i1)), none, some (.int (vz 0))]) (And.intro rfl (And.intro rfl (And.intro rfl trivial))) ((ih.2.2.2) vh sc_ ai_ al_ az_ 0 hM hK hJ hF (by omega) hi0 (mb_n hi1 (by omega)) (nk_n hi2 (by omega)) (pk2_x hi3 (by omega)) (by omega) (by omega))
      ·
        refine w_ldA e104_161 (fun _ => rfl) rfl ?_
        refine w_get e104_162 e338 rfl ?_
        refine w_ldI e104_165 (fun _ => rfl) rfl ?_
        refine w_ldA e104_166 (fun _ => rfl) rfl ?_
        refine w_get e104_167 e338 rfl ?_
        refine w_ldI e104_170 (fun _ => rfl) rfl ?_
        have e340 := tm_i hM (a := 252) (n := 256) rfl
        refine w_ald e104_171 e340 (by omega) (by omega) (by decide) ?_
        show vm_Wp _ _ _ 172 _ [.int (vz (ai_ 252 (x3).toNat)), .int (vz x3), .ref 246] _ _
        have hp341 := hi2.2 (x3).toNat (by omega)
        have e342 := tm_i hM (a := 246) (n := 256) rfl
        refine w_ast e104_172 e342 (by omega) (by omega) (by decide) (by decide) (fun v345 b343 h344 => ?_)
        obtain ⟨ai346, hd348, hM347⟩ : ∃ z, z = u2 ai_ 246 (x3).toNat (ai_ 252 (x3).toNat) ∧ tm sc_ z al_ az_ v0 v345 := ⟨_, rfl, tm_pi hM rfl (tm_r hM 252 (x3).toNat) b343 h344⟩
        have hK349 : tmok ai346 := by rw [hd348]; exact tmok_u hK (by decide) (by decide)
        have hF350 : fr [0, 12, 17, 18, 19, 25, 27, 28, 38, 40, 41] [246, 247, 248, 249, 250, 251, 252, 253, 254, 255, 256, 257, 258, 259, 260, 261] 67 70 sc ai al az sc_ ai346 al_ az_ := fr_i hF hd348 rfl (by decide)
        have hI351 : gi sc_ ai346 al_ az_ := gi_i hJ hd348 (by decide)
        have hS352 := sjk_fr hi0 hK (fr_i (X := []) (Y := [246]) (lo := 1) (hi := 0) (fr_0 _ _ _ _ sc_ ai_ al_ az_) hd348 rfl (by decide)) rfl rfl
        have hMb353 := mb_fr hi1 hK (fr_i (X := []) (Y := [246]) (lo := 1) (hi := 0) (fr_0 _ _ _ _ sc_ ai_ al_ az_) hd348 rfl (by decide)) rfl rfl rfl (by omega)
        have hN354 := nk_fr hi2 hK (fr_i (X := []) (Y := [246]) (lo := 1) (hi := 0) (fr_0 _ _ _ _ sc_ ai_ al_ az_) hd348 rfl (by decide)) rfl rfl rfl rfl rfl
        have hu355 : ai346 252 (x3).toNat = ai_ 252 (x3).toNat := by rw [hd348, u2_a (by decide)]
        have hu356 : ai346 253 (x3).toNat = ai_ 253 (x3).toNat := by rw [hd348, u2_a (by decide)]
        have hu357 : ai346 254 (x3).toNat = ai_ 254 (x3).toNat := by rw [hd348, u2_a (by decide)]
        refine w_ldA e104_173 (fun _ => rfl) rfl ?_
        have e358 := tm_o hM347
        refine w_get e104_174 e358 rfl ?_
        refine w_ldI e104_177 (fun _ => rfl) rfl ?_
        refine w_ldA e104_178 (fun _ => rfl) rfl ?_
        refine w_get e104_179 e358 rfl ?_
        refine w_ldI e104_182 (fun _ => rfl) rfl ?_
        have e359 := tm_i hM347 (a := 253) (n := 256) rfl
        refine w_ald e104_183 e359 (by omega) (by omega) (by decide) ?_
        show vm_Wp _ _ _ 184 _ [.int (vz (ai346 253 (x3).toNat)), .int (vz x3), .ref 247] _ _
        have e360 := tm_i hM347 (a := 247) (n := 256) rfl
        refine w_ast e104_184 e360 (by omega) (by omega) (by decide) (by decide) (fun v363 b361 h362 => ?_)
        obtain ⟨ai364, hd366, hM365⟩ : ∃ z, z = u2 ai346 247 (x3).toNat (ai346 253 (x3).toNat) ∧ tm sc_ z al_ az_ v0 v363 := ⟨_, rfl, tm_pi hM347 rfl (tm_r hM347 253 (x3).toNat) b361 h362⟩
        have hK367 : tmok ai364 := by rw [hd366]; exact tmok_u hK349 (by decide) (by decide)
        have hF368 : fr [0, 12, 17, 18, 19, 25, 27, 28, 38, 40, 41] [246, 247, 248, 249, 250, 251, 252, 253, 254, 255, 256, 257, 258, 259, 260, 261] 67 70 sc ai al az sc_ ai364 al_ az_ := fr_i hF350 hd366 rfl (by decide)
        have hI369 : gi sc_ ai364 al_ az_ := gi_i hI351 hd366 (by decide)
        have hS370 := sjk_fr hS352 hK349 (fr_i (X := []) (Y := [247]) (lo := 1) (hi := 0) (fr_0 _ _ _ _ sc_ ai346 al_ az_) hd366 rfl (by decide)) rfl rfl
        have hMb371 := mb_fr hMb353 hK349 (fr_i (X := []) (Y := [247]) (lo := 1) (hi := 0) (fr_0 _ _ _ _ sc_ ai346 al_ az_) hd366 rfl (by decide)) rfl rfl rfl (by omega)
        have hN372 := nk_fr hN354 hK349 (fr_i (X := []) (Y := [247]) (lo := 1) (hi := 0) (fr_0 _ _ _ _ sc_ ai346 al_ az_) hd366 rfl (by decide)) rfl rfl rfl rfl rfl
        have hu373 : ai364 252 (x3).toNat = ai346 252 (x3).toNat := by rw [hd366, u2_a (by decide)]
        have hu374 : ai364 253 (x3).toNat = ai346 253 (x3).toNat := by rw [hd366, u2_a (by decide)]
        have hu375 : ai364 254 (x3).toNat = ai346 254 (x3).toNat := by rw [hd366, u2_a (by decide)]
        refine w_ldA e104_185 (fun _ => rfl) rfl ?_
        have e376 := tm_o hM365
        refine w_get e104_186 e376 rfl ?_
        refine w_ldI e104_189 (fun _ => rfl) rfl ?_
        refine w_ldA e104_190 (fun _ => rfl) rfl ?_
        refine w_get e104_191 e376 rfl ?_
        refine w_ldI e104_194 (fun _ => rfl) rfl ?_
        have e377 := tm_i hM365 (a := 254) (n := 256) rfl
        refine w_ald e104_195 e377 (by omega) (by omega) (by decide) ?_
        show vm_Wp _ _ _ 196 _ [.int (vz (ai364 254 (x3).toNat)), .int (vz x3), .ref 248] _ _
        have e378 := tm_i hM365 (a := 248) (n := 256) rfl
        refine w_ast e104_196 e378 (by omega) (by omega) (by decide) (by decide) (fun v381 b379 h380 => ?_)
        obtain ⟨ai382, hd384, hM383⟩ : ∃ z, z = u2 ai364 248 (x3).toNat (ai364 254 (x3).toNat) ∧ tm sc_ z al_ az_ v0 v381 := ⟨_, rfl, tm_pi hM365 rfl (tm_r hM365 254 (x3).toNat) b379 h380⟩
        have hK385 : tmok ai382 := by rw [hd384]; exact tmok_u hK367 (by decide) (by decide)
        have hF386 : fr [0, 12, 17, 18, 19, 25, 27, 28, 38, 40, 41] [246, 247, 248, 249, 250, 251, 252, 253, 254, 255, 256, 257, 258, 259, 260, 261] 67 70 sc ai al az sc_ ai382 al_ az_ := fr_i hF368 hd384 rfl (by decide)
        have hI387 : gi sc_ ai382 al_ az_ := gi_i hI369 hd384 (by decide)
        have hS388 := sjk_fr hS370 hK367 (fr_i (X := []) (Y := [248]) (lo := 1) (hi := 0) (fr_0 _ _ _ _ sc_ ai364 al_ az_) hd384 rfl (by decide)) rfl rfl
        have hMb389 := mb_fr hMb371 hK367 (fr_i (X := []) (Y := [248]) (lo := 1) (hi := 0) (fr_0 _ _ _ _ sc_ ai364 al_ az_) hd384 rfl (by decide)) rfl rfl rfl (by omega)
        have hN390 := nk_fr hN372 hK367 (fr_i (X := []) (Y := [248]) (lo := 1) (hi := 0) (fr_0 _ _ _ _ sc_ ai364 al_ az_) hd384 rfl (by decide)) rfl rfl rfl rfl rfl
        have hu391 : ai382 252 (x3).toNat = ai364 252 (x3).toNat := by rw [hd384, u2_a (by decide)]
        have hu392 : ai382 253 (x3).toNat = ai364 253 (x3).toNat := by rw [hd384, u2_a (by decide)]
        have hu393 : ai382 254 (x3).toNat = ai364 254 (x3).toNat := by rw [hd384, u2_a (by decide)]
        have hP394 := pk2_add hi3 (by omega) hd348 hd366 hd384 (by omega)
        refine w_ldA e104_197 (fun _ => rfl) rfl ?_
        have e395 := tm_o hM383
        refine w_get e104_198 e395 rfl ?_
        refine w_ldA e104_201 (fun _ => rfl) rfl ?_
        refine w_get e104_202 e395 rfl ?_
        refine w_ldI e104_205 (fun _ => rfl) rfl ?_
        have e396 := tm_i hM383 (a := 252) (n := 256) rfl
        refine w_ald e104_206 e396 (by omega) (by omega) (by decide) ?_
        show vm_Wp _ _ _ 207 _ [.int (vz (ai382 252 (x3).toNat)), .ref 251] _ _
        have hp397 := hi2.2 (x3).toNat (by omega)
        refine w_x e104_207 (fun _ => rfl) ?_
        have e398 := tm_i hM383 (a := 251) (n := 8) rfl
        refine w_ald e104_208 e398 (by omega) (by omega) (by decide) ?_
        show vm_Wp _ _ _ 209 _ [.int (vz (ai382 251 (ai382 252 (x3).toNat).toNat)), .int (vz (ai382 252 (x3).toNat)), .ref 251] _ _
        refine w_kI e104_209 ?_
        refine w_iadd e104_210 ?_
        refine w_norm (fun q399 h400 => ?_)
        refine w_ast e104_211 e398 (by omega) (by omega) (by decide) (by decide) (fun v403 b401 h402 => ?_)
        obtain ⟨ai404, hd406, hM405⟩ : ∃ z, z = u2 ai382 251 (ai382 252 (x3).toNat).toNat q399 ∧ tm sc_ z al_ az_ v0 v403 := ⟨_, rfl, tm_pi hM383 rfl h400 b401 h402⟩
        have hK407 : tmok ai404 := by rw [hd406]; exact tmok_u hK385 (by decide) (by decide)
        have hF408 : fr [0, 12, 17, 18, 19, 25, 27, 28, 38, 40, 41] [246, 247, 248, 249, 250, 251, 252, 253, 254, 255, 256, 257, 258, 259, 260, 261] 67 70 sc ai al az sc_ ai404 al_ az_ := fr_i hF386 hd406 rfl (by decide)
        have hI409 : gi sc_ ai404 al_ az_ := gi_i hI387 hd406 (by decide)
        have hS410 := sjk_fr hS388 hK385 (fr_i (X := []) (Y := [251]) (lo := 1) (hi := 0) (fr_0 _ _ _ _ sc_ ai382 al_ az_) hd406 rfl (by decide)) rfl rfl
        have hMb411 := mb_fr hMb389 hK385 (fr_i (X := []) (Y := [251]) (lo := 1) (hi := 0) (fr_0 _ _ _ _ sc_ ai382 al_ az_) hd406 rfl (by decide)) rfl rfl rfl (by omega)
        have hN412 := nk_fr hN390 hK385 (fr_i (X := []) (Y := [251]) (lo := 1) (hi := 0) (fr_0 _ _ _ _ sc_ ai382 al_ az_) hd406 rfl (by decide)) rfl rfl rfl rfl rfl
        have hP413 := pk2_fr hP394 hK385 (fr_i (X := []) (Y := [251]) (lo := 1) (hi := 0) (fr_0 _ _ _ _ sc_ ai382 al_ az_) hd406 rfl (by decide)) rfl rfl rfl
        have hu414 : ai404 252 (x3).toNat = ai382 252 (x3).toNat := by rw [hd406, u2_a (by decide)]
        have hu415 : ai404 253 (x3).toNat = ai382 253 (x3).toNat := by rw [hd406, u2_a (by decide)]
        have hu416 : ai404 254 (x3).toNat = ai382 254 (x3).toNat := by rw [hd406, u2_a (by decide)]
        refine w_iinc (A1 := [some (.ref 238), some (.int (vz i1)), none, some (.int (vz (x3 + 1)))]) e104_212 rfl (by decide) rfl ?_
        refine w_x e104_215 (fun _ => rfl) ?_
        exact w_sub (A1 := [some (.ref 238), some (.int (vz i1)), none, some (.int (vz (x3 + 1)))]) (And.intro rfl (And.intro rfl (And.intro rfl trivial))) ((ih.2.2.1) v403 sc_ ai404 al_ az_ (x3 + 1) hM405 hK407 hI409 hF408 (by omega) hS410 (mb_n hMb411 (by omega)) (nk_n hN412 (by omega)) (pk2_n hP413 (by omega)) (by omega) (by omega))
    ·
      intro vh sc_ ai_ al_ az_ x3 hM hK hJ hF hx3 hi0 hi1 hi2 hi3 hi4 hN
      have hn8 := hJ.1.1
      have hn9 := hi2.1
      refine w_ldI e104_220 (fun _ => rfl) rfl ?_
      refine w_ldA e104_221 (fun _ => rfl) rfl ?_
      have e417 := tm_o hM
      refine w_get e104_222 e417 rfl ?_
      refine w_ic e104_225 (by omega) (tm_s hM 25) (fun (h418 : sc_ 25 ≤ x3) => ?_) (fun (h418 : x3 < sc_ 25) => ?_)
      ·
        refine w_ldA e104_258 (fun _ => rfl) rfl ?_
        refine w_get e104_259 e417 rfl ?_
        refine w_kB e104_262 rfl ?_
        have e419 := tm_i hM (a := 242) (n := 72) rfl
        refine w_ald e104_264 e419 (by omega) (by omega) (by decide) ?_
        show vm_Wp _ _ _ 265 _ [.int (vz (ai_ 242 (67 : Int).toNat))] _ _
        have hk420 := hK.1 (67 : Int).toNat
        refine w_if e104_265 (tm_r hM 242 (67 : Int).toNat) (fun (h421 : ai_ 242 (67 : Int).toNat ≠ 0) => ?_) (fun (h421 : ai_ 242 (67 : Int).toNat = 0) => ?_)
        ·
          refine w_kI e104_272 ?_
          exact w_ri e104_273 rfl ⟨⟨sc_, ai_, al_, az_, hM, hK, hJ, hF, ri2_pk hi0 ⟨by omega, (mb_n hi1 (by omega))⟩ (by omega) hi3 (by omega) (by omega)⟩, 0, (by omega), rfl⟩
        ·
          refine w_kI e104_268 ?_
          refine w_x e104_269 (fun _ => rfl) ?_
          exact w_ri e104_273 rfl ⟨⟨sc_, ai_, al_, az_, hM, hK, hJ, hF, ri2_pk hi0 ⟨by omega, (mb_n hi1 (by omega))⟩ (by omega) hi3 (by omega) (by omega)⟩, 1, (by omega), rfl⟩
      ·
        refine w_ldA e104_228 (fun _ => rfl) rfl ?_
        refine w_get e104_229 e417 rfl ?_
        refine w_ldI e104_232 (fun _ => rfl) rfl ?_
        refine w_ldA e104_233 (fun _ => rfl) rfl ?_
        refine w_get e104_234 e417 rfl ?_
        refine w_ldI e104_237 (fun _ => rfl) rfl ?_
        have e422 := tm_l hM (a := 255) (n := 12300) rfl
        refine w_lldO e104_238 e422 (by omega) (by omega) (by decide) (fun l423 => ?_)
        have e424 := tm_l hM (a := 249) (n := 12300) rfl
        refine w_lst e104_239 e424 (by omega) (by omega) (by decide) (fun v427 b425 h426 => ?_)
        obtain ⟨al428, hd430, hM429⟩ : ∃ z, z = u2 al_ 249 (x3).toNat l423 ∧ tm sc_ ai_ z az_ v0 v427 := ⟨_, rfl, tm_pl hM rfl b425 h426⟩
        have hF431 : fr [0, 12, 17, 18, 19, 25, 27, 28, 38, 40, 41] [246, 247, 248, 249, 250, 251, 252, 253, 254, 255, 256, 257, 258, 259, 260, 261] 67 70 sc ai al az sc_ ai_ al428 az_ := fr_l hF hd430 rfl (by decide)
        have hI432 : gi sc_ ai_ al428 az_ := gi_l hJ hd430 (by decide)
        have hS433 := sjk_fr hi0 hK (fr_l (X := []) (Y := [249]) (lo := 1) (hi := 0) (fr_0 _ _ _ _ sc_ ai_ al_ az_) hd430 rfl (by decide)) rfl rfl
        have hMb434 := mb_fr hi1 hK (fr_l (X := []) (Y := [249]) (lo := 1) (hi := 0) (fr_0 _ _ _ _ sc_ ai_ al_ az_) hd430 rfl (by decide)) rfl rfl rfl (by omega)
        have hN435 := nk_fr hi2 hK (fr_l (X := []) (Y := [249]) (lo := 1) (hi := 0) (fr_0 _ _ _ _ sc_ ai_ al_ az_) hd430 rfl (by decide)) rfl rfl rfl rfl rfl
        have hP436 := pk2_fr hi3 hK (fr_l (X := []) (Y := [249]) (lo := 1) (hi := 0) (fr_0 _ _ _ _ sc_ ai_ al_ az_) hd430 rfl (by decide)) rfl rfl rfl
        refine w_ldA e104_240 (fun _ => rfl) rfl ?_
        have e437 := tm_o hM429
        refine w_get e104_241 e437 rfl ?_
        refine w_ldI e104_244 (fun _ => rfl) rfl ?_
        refine w_ldA e104_245 (fun _ => rfl) rfl ?_
        refine w_get e104_246 e437 rfl ?_
        refine w_ldI e104_249 (fun _ => rfl) rfl ?_
        have e438 := tm_l hM429 (a := 256) (n := 12300) rfl
        refine w_lldO e104_250 e438 (by omega) (by omega) (by decide) (fun l439 => ?_)
        have e440 := tm_l hM429 (a := 250) (n := 12300) rfl
        refine w_lst e104_251 e440 (by omega) (by omega) (by decide) (fun v443 b441 h442 => ?_)
        obtain ⟨al444, hd446, hM445⟩ : ∃ z, z = u2 al428 250 (x3).toNat l439 ∧ tm sc_ ai_ z az_ v0 v443 := ⟨_, rfl, tm_pl hM429 rfl b441 h442⟩
        have hF447 : fr [0, 12, 17, 18, 19, 25, 27, 28, 38, 40, 41] [246, 247, 248, 249, 250, 251, 252, 253, 254, 255, 256, 257, 258, 259, 260, 261] 67 70 sc ai al az sc_ ai_ al444 az_ := fr_l hF431 hd446 rfl (by decide)
        have hI448 : gi sc_ ai_ al444 az_ := gi_l hI432 hd446 (by decide)
        have hS449 := sjk_fr hS433 hK (fr_l (X := []) (Y := [250]) (lo := 1) (hi := 0) (fr_0 _ _ _ _ sc_ ai_ al428 az_) hd446 rfl (by decide)) rfl rfl
        have hMb450 := mb_fr hMb434 hK (fr_l (X := []) (Y := [250]) (lo := 1) (hi := 0) (fr_0 _ _ _ _ sc_ ai_ al428 az_) hd446 rfl (by decide)) rfl rfl rfl (by omega)
        have hN451 := nk_fr hN435 hK (fr_l (X := []) (Y := [250]) (lo := 1) (hi := 0) (fr_0 _ _ _ _ sc_ ai_ al428 az_) hd446 rfl (by decide)) rfl rfl rfl rfl rfl
        have hP452 := pk2_fr hP436 hK (fr_l (X := []) (Y := [250]) (lo := 1) (hi := 0) (fr_0 _ _ _ _ sc_ ai_ al428 az_) hd446 rfl (by decide)) rfl rfl rfl
        refine w_iinc (A1 := [some (.ref 238), some (.int (vz i1)), none, some (.int (vz (x3 + 1)))]) e104_252 rfl (by decide) rfl ?_
        refine w_x e104_255 (fun _ => rfl) ?_
        exact w_sub (A1 := [some (.ref 238), some (.int (vz i1)), none, some (.int (vz (x3 + 1)))]) (And.intro rfl (And.intro rfl (And.intro rfl trivial))) ((ih.2.2.2) v443 sc_ ai_ al444 az_ (x3 + 1) hM445 hK hI448 hF447 (by omega) hS449 (mb_n hMb450 (by omega)) (nk_n hN451 (by omega)) hP452 (by omega) (by omega))
set_option maxRecDepth 100000 in
set_option maxHeartbeats 4000000 in
theorem c104 {sc : Nat → Int} {ai : Nat → Nat → Int} {al : Nat → Nat → Int64} {az : Nat → Nat → Int32} {v0 vh : vm_H} (hM : tm sc ai al az v0 vh) (hK : tmok ai) (hI : gi sc ai al az) {i1 : Int} (hi_1 : -2147483648 ≤ i1 ∧ i1 < 2147483648) (hR : ri2 sc ai al az) : vm_Rp 6 157 104 [.ref 238, .int (vz i1)] vh (fun r v1 => (∃ (sc1 : Nat → Int) (ai1 : Nat → Nat → Int) (al1 : Nat → Nat → Int64) (az1 : Nat → Nat → Int32), tm sc1 ai1 al1 az1 v0 v1 ∧ tmok ai1 ∧ gi sc1 ai1 al1 az1 ∧ fr [0, 12, 17, 18, 19, 25, 27, 28, 38, 40, 41] [246, 247, 248, 249, 250, 251, 252, 253, 254, 255, 256, 257, 258, 259, 260, 261] 67 70 sc ai al az sc1 ai1 al1 az1 ∧ (ri2 sc1 ai1 al1 az1)) ∧ ∃ q : Int, (-1 ≤ q ∧ q ≤ 2) ∧ r = some (.int (vz q))) := by
  have hF0 : fr [0, 12, 17, 18, 19, 25, 27, 28, 38, 40, 41] [246, 247, 248, 249, 250, 251, 252, 253, 254, 255, 256, 257, 258, 259, 260, 261] 67 70 sc ai al az sc ai al az := fr_0 _ _ _ _ _ _ _ _
  have hn8 := hI.1.1
  have hm8 := hR.2.1.1
  refine w_in (m := 2) ?_
  show vm_Wp _ _ _ 0 [some (.ref 238), some (.int (vz i1)), none, none] [] _ _
  refine w_ldA e104_0 (fun _ => rfl) rfl ?_
  refine w_kI e104_1 ?_
  have e1 := tm_o hM
  refine w_put e104_2 e1 (Nat.le_of_ble_eq_true rfl) rfl (fun v4 b2 h3 => ?_)
  obtain ⟨sc5, hd7, hM6⟩ : ∃ z, z = u1 sc 0 (0) ∧ tm z ai al az v0 v4 := ⟨_, rfl, tm_ps 0 hM (by omega) b2 h3⟩
  have hs8 : sc5 0 = 0 := by rw [hd7]; exact u1_s
  have hs9 : sc5 1 = sc 1 := by rw [hd7]; exact u1_o (by decide)
  have hs10 : sc5 4 = sc 4 := by rw [hd7]; exact u1_o (by decide)
  have hs11 : sc5 11 = sc 11 := by rw [hd7]; exact u1_o (by decide)
  have hs12 : sc5 18 = sc 18 := by rw [hd7]; exact u1_o (by decide)
  have hs13 : sc5 19 = sc 19 := by rw [hd7]; exact u1_o (by decide)
  have hs14 : sc5 25 = sc 25 := by rw [hd7]; exact u1_o (by decide)
  have hs15 : sc5 27 = sc 27 := by rw [hd7]; exact u1_o (by decide)
  have hs16 : sc5 28 = sc 28 := by rw [hd7]; exact u1_o (by decide)
  have hs17 : sc5 38 = sc 38 := by rw [hd7]; exact u1_o (by decide)
  have hs18 : sc5 40 = sc 40 := by rw [hd7]; exact u1_o (by decide)
  have hs19 : sc5 41 = sc 41 := by rw [hd7]; exact u1_o (by decide)
  have hF20 : fr [0, 12, 17, 18, 19, 25, 27, 28, 38, 40, 41] [246, 247, 248, 249, 250, 251, 252, 253, 254, 255, 256, 257, 258, 259, 260, 261] 67 70 sc ai al az sc5 ai al az := fr_s hF0 hd7 rfl
  have hI21 : gi sc5 ai al az := gi_s hI hd7 (by decide) (by decide) (by decide)
  have hR22 := ri2_fr hR hK (fr_s (X := [0]) (Y := []) (lo := 1) (hi := 0) (fr_0 _ _ _ _ sc ai al az) hd7 rfl) rfl rfl rfl rfl rfl rfl rfl rfl rfl (by omega)
  have hS23 := sjk_fr hR.1 hK (fr_s (X := [0]) (Y := []) (lo := 1) (hi := 0) (fr_0 _ _ _ _ sc ai al az) hd7 rfl) rfl rfl
  refine w_ldA e104_5 (fun _ => rfl) rfl ?_
  refine w_ldI e104_6 (fun _ => rfl) rfl ?_
  have e24 := tm_o hM6
  refine w_cv e104_7 (by decide) rfl e24 rfl (Nat.le_of_ble_eq_true rfl) (Nat.le_of_ble_eq_true rfl) (Nat.le_of_ble_eq_true rfl) (by decide) (by decide) (c103 hM6 hK hi_1) (fun o25 v26 hq27 => ?_)
  obtain ⟨rfl, q28, h29, rfl⟩ := hq27
  refine w_if e104_10 (by omega) (fun (h30 : q28 ≠ 0) => ?_) (fun (h30 : q28 = 0) => ?_)
  ·
    refine w_kI e104_20 ?_
    exact w_ri e104_21 rfl ⟨⟨sc5, ai, al, az, hM6, hK, hI21, hF20, hR22⟩, -1, (by omega), rfl⟩
  ·
    refine w_ldA e104_13 (fun _ => rfl) rfl ?_
    refine w_get e104_14 e24 rfl ?_
    refine w_if e104_17 (tm_s hM6 10) (fun (h31 : sc5 10 ≠ 0) => ?_) (fun (h31 : sc5 10 = 0) => ?_)
    ·
      refine w_ldA e104_22 (fun _ => rfl) rfl ?_
      refine w_ldI e104_23 (fun _ => rfl) rfl ?_
      refine w_kB e104_24 rfl ?_
      refine w_cv e104_26 (by decide) rfl e24 rfl (Nat.le_of_ble_eq_true rfl) (Nat.le_of_ble_eq_true rfl) (Nat.le_of_ble_eq_true rfl) (by decide) (by decide) (k81 hM6 hK hI21 (by omega) (by omega) (by omega)) (fun o32 v33 hq34 => ?_)
      obtain ⟨⟨sc35, ai36, al37, az38, hM39, hK40, hI41, hG42, hE43⟩, rfl⟩ := hq34
      have hs44 : sc35 0 = sc5 0 := hG42.1 0 rfl
      have hs45 : sc35 1 = sc5 1 := hG42.1 1 rfl
      have hs46 : sc35 4 = sc5 4 := hG42.1 4 rfl
      have hs47 : sc35 11 = sc5 11 := hG42.1 11 rfl
      have hs48 : sc35 18 = sc5 18 := hG42.1 18 rfl
      have hs49 : sc35 19 = sc5 19 := hG42.1 19 rfl
      have hs50 : sc35 25 = sc5 25 := hG42.1 25 rfl
      have hs51 : sc35 27 = sc5 27 := hG42.1 27 rfl
      have hs52 : sc35 28 = sc5 28 := hG42.1 28 rfl
      have hs53 : sc35 38 = sc5 38 := hG42.1 38 rfl
      have hs54 : sc35 40 = sc5 40 := hG42.1 40 rfl
      have hs55 : sc35 41 = sc5 41 := hG42.1 41 rfl
      have hF56 : fr [0, 12, 17, 18, 19, 25, 27, 28, 38, 40, 41] [246, 247, 248, 249, 250, 251, 252, 253, 254, 255, 256, 257, 258, 259, 260, 261] 67 70 sc ai al az sc35 ai36 al37 az38 := fr_t hF20 hG42 rfl rfl (by omega)
      have hR57 := ri2_fr hR22 hK hG42 rfl rfl rfl rfl rfl rfl rfl rfl rfl (by omega)
      have hS58 := sjk_fr hS23 hK hG42 rfl rfl
      refine w_ldA e104_29 (fun _ => rfl) rfl ?_
      refine w_ldA e104_30 (fun _ => rfl) rfl ?_
      have e59 := tm_o hM39
      refine w_get e104_31 e59 rfl ?_
      refine w_put e104_34 e59 (Nat.le_of_ble_eq_true rfl) rfl (fun v62 b60 h61 => ?_)
      obtain ⟨sc63, hd65, hM64⟩ : ∃ z, z = u1 sc35 40 (sc35 11) ∧ tm z ai36 al37 az38 v0 v62 := ⟨_, rfl, tm_ps 40 hM39 (tm_s hM39 11) b60 h61⟩
      have hs66 : sc63 0 = sc35 0 := by rw [hd65]; exact u1_o (by decide)
      have hs67 : sc63 1 = sc35 1 := by rw [hd65]; exact u1_o (by decide)
      have hs68 : sc63 4 = sc35 4 := by rw [hd65]; exact u1_o (by decide)
      have hs69 : sc63 11 = sc35 11 := by rw [hd65]; exact u1_o (by decide)
      have hs70 : sc63 18 = sc35 18 := by rw [hd65]; exact u1_o (by decide)
      have hs71 : sc63 19 = sc35 19 := by rw [hd65]; exact u1_o (by decide)
      have hs72 : sc63 25 = sc35 25 := by rw [hd65]; exact u1_o (by decide)
      have hs73 : sc63 27 = sc35 27 := by rw [hd65]; exact u1_o (by decide)
      have hs74 : sc63 28 = sc35 28 := by rw [hd65]; exact u1_o (by decide)
      have hs75 : sc63 38 = sc35 38 := by rw [hd65]; exact u1_o (by decide)
      have hs76 : sc63 40 = sc35 11 := by rw [hd65]; exact u1_s
      have hs77 : sc63 41 = sc35 41 := by rw [hd65]; exact u1_o (by decide)
      have hF78 : fr [0, 12, 17, 18, 19, 25, 27, 28, 38, 40, 41] [246, 247, 248, 249, 250, 251, 252, 253, 254, 255, 256, 257, 258, 259, 260, 261] 67 70 sc ai al az sc63 ai36 al37 az38 := fr_s hF56 hd65 rfl
      have hI79 : gi sc63 ai36 al37 az38 := gi_s hI41 hd65 (by decide) (by decide) (by decide)
      have hR80 := ri2_fr hR57 hK40 (fr_s (X := [40]) (Y := []) (lo := 1) (hi := 0) (fr_0 _ _ _ _ sc35 ai36 al37 az38) hd65 rfl) rfl rfl rfl rfl rfl rfl rfl rfl rfl (by omega)
      have hS81 := sjk_fr hS58 hK40 (fr_s (X := [40]) (Y := []) (lo := 1) (hi := 0) (fr_0 _ _ _ _ sc35 ai36 al37 az38) hd65 rfl) rfl rfl
      refine w_kI e104_37 ?_
      refine w_stI (j := 2) (A1 := [some (.ref 238), some (.int (vz i1)), some (.int (vz 0)), none]) e104_38 (fun _ => rfl) (by decide) rfl ?_
      exact w_sub (A1 := [some (.ref 238), some (.int (vz i1)), some (.int (vz 0)), none]) (And.intro rfl (And.intro rfl (And.intro rfl trivial))) (((c104_L (sc := sc) (ai := ai) (al := al) (az := az) (v0 := v0) (i1 := i1) hK hI hi_1 hR _).1) v62 sc63 ai36 al37 az38 0 hM64 hK40 hI79 hF78 (by omega) hR80 (fun m hm => by omega) (by omega) (Nat.lt_succ_self _))
    ·
      refine w_kI e104_20 ?_
      exact w_ri e104_21 rfl ⟨⟨sc5, ai, al, az, hM6, hK, hI21, hF20, hR22⟩, -1, (by omega), rfl⟩
