set_option maxRecDepth 100000 in
set_option maxHeartbeats 4000000 in
theorem c121_L {sc : Nat → Int} {ai : Nat → Nat → Int} {al : Nat → Nat → Int64} {az : Nat → Nat → Int32} {v0 : vm_H} (hK0 : tmok ai) (hI : gi sc ai al az) {i1 : Int} (hi_1 : -2147483648 ≤ i1 ∧ i1 < 2147483648) (hR : ri2 sc ai al az) : ∀ N : Nat, (∀ (vh : vm_H) (sc_ : Nat → Int) (ai_ : Nat → Nat → Int) (al_ : Nat → Nat → Int64) (az_ : Nat → Nat → Int32) (x2 : Int), (tm sc_ ai_ al_ az_ v0 vh) → (tmok ai_) → (gi sc_ ai_ al_ az_) → (fr [0] [262] 70 70 sc ai al az sc_ ai_ al_ az_) → (0 ≤ x2 ∧ x2 ≤ 8) → (ri2 sc_ ai_ al_ az_) → (sc_ 18 ≠ 0 ∧ (0 ≤ i1 ∧ i1 < 8) ∧ (0 ≤ sc_ 11 ∧ sc_ 11 ≤ 8) ∧ (0 ≤ sc_ 19 ∧ sc_ 19 ≤ 200)) → ((1000000000 + 8 - x2 : Int).toNat < N) → vm_Wp 5 112 121 24 [some (.ref 238), some (.int (vz i1)), some (.int (vz x2)), none, none, none, none, none] [] vh (vq_P 121 (fun r v1 => (∃ (sc1 : Nat → Int) (ai1 : Nat → Nat → Int) (al1 : Nat → Nat → Int64) (az1 : Nat → Nat → Int32), tm sc1 ai1 al1 az1 v0 v1 ∧ tmok ai1 ∧ gi sc1 ai1 al1 az1 ∧ fr [0] [262] 70 70 sc ai al az sc1 ai1 al1 az1 ∧ (ri2 sc1 ai1 al1 az1)) ∧ ∃ q : Int64, r = some (.long q)))) ∧ (∀ (vh : vm_H) (sc_ : Nat → Int) (ai_ : Nat → Nat → Int) (al_ : Nat → Nat → Int64) (az_ : Nat → Nat → Int32) (x2 : Int), (tm sc_ ai_ al_ az_ v0 vh) → (tmok ai_) → (gi sc_ ai_ al_ az_) → (fr [0] [262] 70 70 sc ai al az sc_ ai_ al_ az_) → (0 ≤ x2 ∧ x2 ≤ 200) → (ri2 sc_ ai_ al_ az_) → (sc_ 18 ≠ 0 ∧ (0 ≤ i1 ∧ i1 < 8) ∧ (0 ≤ sc_ 11 ∧ sc_ 11 ≤ 8) ∧ (0 ≤ sc_ 19 ∧ sc_ 19 ≤ 200)) → (((200 - x2) * 100000 + 99999 : Int).toNat < N) → vm_Wp 5 112 121 45 [some (.ref 238), some (.int (vz i1)), some (.int (vz x2)), none, none, none, none, none] [] vh (vq_P 121 (fun r v1 => (∃ (sc1 : Nat → Int) (ai1 : Nat → Nat → Int) (al1 : Nat → Nat → Int64) (az1 : Nat → Nat → Int32), tm sc1 ai1 al1 az1 v0 v1 ∧ tmok ai1 ∧ gi sc1 ai1 al1 az1 ∧ fr [0] [262] 70 70 sc ai al az sc1 ai1 al1 az1 ∧ (ri2 sc1 ai1 al1 az1)) ∧ ∃ q : Int64, r = some (.long q)))) ∧ (∀ (vh : vm_H) (sc_ : Nat → Int) (ai_ : Nat → Nat → Int) (al_ : Nat → Nat → Int64) (az_ : Nat → Nat → Int32) (x2 : Int) (x3 : Int) (x4 : Int) (y5 : Int64) (x7 : Int), (tm sc_ ai_ al_ az_ v0 vh) → (tmok ai_) → (gi sc_ ai_ al_ az_) → (fr [0] [262] 70 70 sc ai al az sc_ ai_ al_ az_) → (0 ≤ x2 ∧ x2 < sc_ 19) → (0 ≤ x3 ∧ x3 < sc_ 11) → (-2147483648 ≤ x4 ∧ x4 < 2147483648) → (0 ≤ x7 ∧ x7 ≤ 8) → (ri2 sc_ ai_ al_ az_) → (sc_ 18 ≠ 0 ∧ (0 ≤ i1 ∧ i1 < 8) ∧ (0 ≤ sc_ 11 ∧ sc_ 11 ≤ 8) ∧ (0 ≤ sc_ 19 ∧ sc_ 19 ≤ 200)) → (((200 - x2) * 100000 + 50000 + (8 - x7) : Int).toNat < N) → vm_Wp 5 112 121 79 [some (.ref 238), some (.int (vz i1)), some (.int (vz x2)), some (.int (vz x3)), some (.int (vz x4)), some (.long y5), none, some (.int (vz x7))] [] vh (vq_P 121 (fun r v1 => (∃ (sc1 : Nat → Int) (ai1 : Nat → Nat → Int) (al1 : Nat → Nat → Int64) (az1 : Nat → Nat → Int32), tm sc1 ai1 al1 az1 v0 v1 ∧ tmok ai1 ∧ gi sc1 ai1 al1 az1 ∧ fr [0] [262] 70 70 sc ai al az sc1 ai1 al1 az1 ∧ (ri2 sc1 ai1 al1 az1)) ∧ ∃ q : Int64, r = some (.long q)))) ∧ (∀ (vh : vm_H) (sc_ : Nat → Int) (ai_ : Nat → Nat → Int) (al_ : Nat → Nat → Int64) (az_ : Nat → Nat → Int32) (x2 : Int) (x3 : Int) (x4 : Int) (y5 : Int64) (x7 : Int), (tm sc_ ai_ al_ az_ v0 vh) → (tmok ai_) → (gi sc_ ai_ al_ az_) → (fr [0] [262] 70 70 sc ai al az sc_ ai_ al_ az_) → (0 ≤ x2 ∧ x2 < sc_ 19) → (0 ≤ x3 ∧ x3 < sc_ 11) → (-2147483648 ≤ x4 ∧ x4 < 2147483648) → (0 ≤ x7 ∧ x7 ≤ 12300) → (ri2 sc_ ai_ al_ az_) → (sc_ 18 ≠ 0 ∧ (0 ≤ i1 ∧ i1 < 8) ∧ (0 ≤ sc_ 11 ∧ sc_ 11 ≤ 8) ∧ (0 ≤ sc_ 19 ∧ sc_ 19 ≤ 200)) → (((200 - x2) * 100000 + (12300 - x7) : Int).toNat < N) → vm_Wp 5 112 121 114 [some (.ref 238), some (.int (vz i1)), some (.int (vz x2)), some (.int (vz x3)), some (.int (vz x4)), some (.long y5), none, some (.int (vz x7))] [] vh (vq_P 121 (fun r v1 => (∃ (sc1 : Nat → Int) (ai1 : Nat → Nat → Int) (al1 : Nat → Nat → Int64) (az1 : Nat → Nat → Int32), tm sc1 ai1 al1 az1 v0 v1 ∧ tmok ai1 ∧ gi sc1 ai1 al1 az1 ∧ fr [0] [262] 70 70 sc ai al az sc1 ai1 al1 az1 ∧ (ri2 sc1 ai1 al1 az1)) ∧ ∃ q : Int64, r = some (.long q)))) := by
  have hF0 : fr [0] [262] 70 70 sc ai al az sc ai al az := fr_0 _ _ _ _ _ _ _ _
  intro N
  induction N with
  | zero => exact ⟨by intros; omega, by intros; omega, by intros; omega, by intros; omega⟩
  | succ N ih =>
    refine ⟨?_, ?_, ?_, ?_⟩
    ·
      intro vh sc_ ai_ al_ az_ x2 hM hK hJ hF hx2 hi0 hi1 hN
      have hq8 := hi1
      have hn8 := hJ.1.1
      refine w_ldI e121_24 (fun _ => rfl) rfl ?_
      refine w_kB e121_25 rfl ?_
      refine w_ic e121_27 (by omega) (by omega) (fun (h30 : 8 ≤ x2) => ?_) (fun (h30 : x2 < 8) => ?_)
      ·
        refine w_kI e121_43 ?_
        refine w_stI (j := 2) (A1 := [some (.ref 238), some (.int (vz i1)), some (.int (vz 0)), none, none, none, none, none]) e121_44 (fun _ => rfl) (by decide) rfl ?_
        exact w_sub (A1 := [some (.ref 238), some (.int (vz i1)), some (.int (vz 0)), none, none, none, none, none]) (And.intro rfl (And.intro rfl (And.intro rfl trivial))) ((ih.2.1) vh sc_ ai_ al_ az_ 0 hM hK hJ hF (by omega) hi0 (by omega) (by omega))
      ·
        refine w_ldA e121_30 (fun _ => rfl) rfl ?_
        have e31 := tm_o hM
        refine w_get e121_31 e31 rfl ?_
        refine w_ldI e121_34 (fun _ => rfl) rfl ?_
        refine w_oL e121_35 (fun _ => rfl) (fun l32 => ?_)
        have e33 := tm_l hM (a := 262) (n := 8) rfl
        refine w_lst e121_36 e33 (by omega) (by omega) (by decide) (fun v36 b34 h35 => ?_)
        obtain ⟨al37, hd39, hM38⟩ : ∃ z, z = u2 al_ 262 (x2).toNat l32 ∧ tm sc_ ai_ z az_ v0 v36 := ⟨_, rfl, tm_pl hM rfl b34 h35⟩
        have hF40 : fr [0] [262] 70 70 sc ai al az sc_ ai_ al37 az_ := fr_l hF hd39 rfl (by decide)
        have hI41 : gi sc_ ai_ al37 az_ := gi_l hJ hd39 (by decide)
        have hR42 := ri2_fr hi0 hK (fr_l (X := []) (Y := [262]) (lo := 1) (hi := 0) (fr_0 _ _ _ _ sc_ ai_ al_ az_) hd39 rfl (by decide)) rfl rfl rfl rfl rfl rfl rfl rfl rfl (by omega)
        have hS43 := sjk_fr hi0.1 hK (fr_l (X := []) (Y := [262]) (lo := 1) (hi := 0) (fr_0 _ _ _ _ sc_ ai_ al_ az_) hd39 rfl (by decide)) rfl rfl
        refine w_iinc (A1 := [some (.ref 238), some (.int (vz i1)), some (.int (vz (x2 + 1))), none, none, none, none, none]) e121_37 rfl (by decide) rfl ?_
        refine w_x e121_40 (fun _ => rfl) ?_
        exact w_sub (A1 := [some (.ref 238), some (.int (vz i1)), some (.int (vz (x2 + 1))), none, none, none, none, none]) (And.intro rfl (And.intro rfl (And.intro rfl trivial))) ((ih.1) v36 sc_ ai_ al37 az_ (x2 + 1) hM38 hK hI41 hF40 (by omega) hR42 (by omega) (by omega))
    ·
      intro vh sc_ ai_ al_ az_ x2 hM hK hJ hF hx2 hi0 hi1 hN
      have hq8 := hi1
      have hn8 := hJ.1.1
      refine w_ldI e121_45 (fun _ => rfl) rfl ?_
      refine w_ldA e121_46 (fun _ => rfl) rfl ?_
      have e44 := tm_o hM
      refine w_get e121_47 e44 rfl ?_
      refine w_ic e121_50 (by omega) (tm_s hM 19) (fun (h45 : sc_ 19 ≤ x2) => ?_) (fun (h45 : x2 < sc_ 19) => ?_)
      ·
        refine w_ldA e121_172 (fun _ => rfl) rfl ?_
        refine w_get e121_173 e44 rfl ?_
        refine w_ldI e121_176 (fun _ => rfl) rfl ?_
        have e46 := tm_l hM (a := 262) (n := 8) rfl
        refine w_lldO e121_177 e46 (by omega) (by omega) (by decide) (fun l47 => ?_)
        exact w_rl e121_178 rfl ⟨⟨sc_, ai_, al_, az_, hM, hK, hJ, hF, hi0⟩, _, rfl⟩
      ·
        refine w_ldA e121_53 (fun _ => rfl) rfl ?_
        refine w_get e121_54 e44 rfl ?_
        refine w_ldI e121_57 (fun _ => rfl) rfl ?_
        have e48 := tm_i hM (a := 246) (n := 256) rfl
        refine w_ald e121_58 e48 (by omega) (by omega) (by decide) ?_
        show vm_Wp _ _ _ 59 _ [.int (vz (ai_ 246 (x2).toNat))] _ _
        have hp49 := (hi0.2.2.resolve_left hq8.1).2 (x2).toNat (by omega)
        refine w_stI (j := 3) (A1 := [some (.ref 238), some (.int (vz i1)), some (.int (vz x2)), some (.int (vz (ai_ 246 (x2).toNat))), none, none, none, none]) e121_59 (fun _ => rfl) (by decide) rfl ?_
        refine w_ldA e121_60 (fun _ => rfl) rfl ?_
        refine w_kI e121_61 ?_
        refine w_ldI e121_62 (fun _ => rfl) rfl ?_
        refine w_cv e121_63 (by decide) rfl e44 rfl (Nat.le_of_ble_eq_true rfl) (Nat.le_of_ble_eq_true rfl) (Nat.le_of_ble_eq_true rfl) (by decide) (by decide) (c114 hM hK hJ (by omega) (tm_r hM 246 (x2).toNat) hi0) (fun o50 v51 hq52 => ?_)
        obtain ⟨⟨sc53, ai54, al55, az56, hM57, hK58, hI59, hG60, hE61⟩, q62, h63, rfl⟩ := hq52
        have hs64 : sc53 0 = sc_ 0 := hG60.1 0 rfl
        have hs65 : sc53 1 = sc_ 1 := hG60.1 1 rfl
        have hs66 : sc53 4 = sc_ 4 := hG60.1 4 rfl
        have hs67 : sc53 11 = sc_ 11 := hG60.1 11 rfl
        have hs68 : sc53 18 = sc_ 18 := hG60.1 18 rfl
        have hs69 : sc53 19 = sc_ 19 := hG60.1 19 rfl
        have hs70 : sc53 38 = sc_ 38 := hG60.1 38 rfl
        have hF71 : fr [0] [262] 70 70 sc ai al az sc53 ai54 al55 az56 := fr_t hF hG60 rfl rfl (by omega)
        have hR72 := ri2_fr hi0 hK hG60 rfl rfl rfl rfl rfl rfl rfl rfl rfl (by omega)
        have hS73 := sjk_fr hi0.1 hK hG60 rfl rfl
        refine w_stI (j := 4) (A1 := [some (.ref 238), some (.int (vz i1)), some (.int (vz x2)), some (.int (vz (ai_ 246 (x2).toNat))), some (.int (vz q62)), none, none, none]) e121_66 (fun _ => rfl) (by decide) rfl ?_
        refine w_ldA e121_68 (fun _ => rfl) rfl ?_
        refine w_ldI e121_69 (fun _ => rfl) rfl ?_
        have e74 := tm_o hM57
        refine w_cv e121_71 (by decide) rfl e74 rfl (Nat.le_of_ble_eq_true rfl) (Nat.le_of_ble_eq_true rfl) (Nat.le_of_ble_eq_true rfl) (by decide) (by decide) (c119 hM57 hK58 (by omega)) (fun o75 v76 hq77 => ?_)
        obtain ⟨rfl, l78, rfl⟩ := hq77
        refine w_stL (j := 5) (A1 := [some (.ref 238), some (.int (vz i1)), some (.int (vz x2)), some (.int (vz (ai_ 246 (x2).toNat))), some (.int (vz q62)), some (.long l78), none, none]) e121_74 (fun _ => rfl) (by decide) rfl ?_
        refine w_kI e121_76 ?_
        refine w_stI (j := 7) (A1 := [some (.ref 238), some (.int (vz i1)), some (.int (vz x2)), some (.int (vz (ai_ 246 (x2).toNat))), some (.int (vz q62)), some (.long l78), none, some (.int (vz 0))]) e121_77 (fun _ => rfl) (by decide) rfl ?_
        exact w_sub (A1 := [some (.ref 238), some (.int (vz i1)), some (.int (vz x2)), some (.int (vz (ai_ 246 (x2).toNat))), some (.int (vz q62)), some (.long l78), none, some (.int (vz 0))]) (And.intro rfl (And.intro rfl (And.intro rfl (And.intro rfl (And.intro rfl (And.intro rfl (And.intro rfl trivial))))))) ((ih.2.2.1) v51 sc53 ai54 al55 az56 x2 (ai_ 246 (x2).toNat) q62 l78 0 hM57 hK58 hI59 hF71 (by omega) (by omega) (by omega) (by omega) hR72 (by omega) (by omega))
    ·
      intro vh sc_ ai_ al_ az_ x2 x3 x4 y5 x7 hM hK hJ hF hx2 hx3 hx4 hx7 hi0 hi1 hN
      have hq8 := hi1
      have hn8 := hJ.1.1
      refine w_ldI e121_79 (fun _ => rfl) rfl ?_
      refine w_ldA e121_81 (fun _ => rfl) rfl ?_
      have e79 := tm_o hM
      refine w_get e121_82 e79 rfl ?_
      refine w_ic e121_85 (by omega) (tm_s hM 11) (fun (h80 : sc_ 11 ≤ x7) => ?_) (fun (h80 : x7 < sc_ 11) => ?_)
      ·
        refine w_ldA e121_106 (fun _ => rfl) rfl ?_
        refine w_get e121_107 e79 rfl ?_
        refine w_ldI e121_110 (fun _ => rfl) rfl ?_
        have e81 := tm_i hM (a := 247) (n := 256) rfl
        refine w_ald e121_111 e81 (by omega) (by omega) (by decide) ?_
        show vm_Wp _ _ _ 112 _ [.int (vz (ai_ 247 (x2).toNat))] _ _
        have hp82 := (hi0.2.2.resolve_left hq8.1).2 (x2).toNat (by omega)
        refine w_stI (j := 7) (A1 := [some (.ref 238), some (.int (vz i1)), some (.int (vz x2)), some (.int (vz x3)), some (.int (vz x4)), some (.long y5), none, some (.int (vz (ai_ 247 (x2).toNat)))]) e121_112 (fun _ => rfl) (by decide) rfl ?_
        exact w_sub (A1 := [some (.ref 238), some (.int (vz i1)), some (.int (vz x2)), some (.int (vz x3)), some (.int (vz x4)), some (.long y5), none, some (.int (vz (ai_ 247 (x2).toNat)))]) (And.intro rfl (And.intro rfl (And.intro rfl (And.intro rfl (And.intro rfl (And.intro rfl (And.intro rfl trivial))))))) ((ih.2.2.2) vh sc_ ai_ al_ az_ x2 x3 x4 y5 (ai_ 247 (x2).toNat) hM hK hJ hF (by omega) (by omega) hx4 (by omega) hi0 (by omega) (by omega))
      ·
        refine w_ldA e121_88 (fun _ => rfl) rfl ?_
        refine w_get e121_89 e79 rfl ?_
        refine w_ldI e121_92 (fun _ => rfl) rfl ?_
        refine w_x e121_94 (fun _ => rfl) ?_
        have e83 := tm_l hM (a := 262) (n := 8) rfl
        refine w_lldO e121_95 e83 (by omega) (by omega) (by decide) (fun l84 => ?_)
        refine w_ldL e121_96 (fun _ => rfl) rfl ?_
        refine w_oL e121_98 (fun _ => rfl) (fun l85 => ?_)
        refine w_lst e121_99 e83 (by omega) (by omega) (by decide) (fun v88 b86 h87 => ?_)
        obtain ⟨al89, hd91, hM90⟩ : ∃ z, z = u2 al_ 262 (x7).toNat l85 ∧ tm sc_ ai_ z az_ v0 v88 := ⟨_, rfl, tm_pl hM rfl b86 h87⟩
        have hF92 : fr [0] [262] 70 70 sc ai al az sc_ ai_ al89 az_ := fr_l hF hd91 rfl (by decide)
        have hI93 : gi sc_ ai_ al89 az_ := gi_l hJ hd91 (by decide)
        have hR94 := ri2_fr hi0 hK (fr_l (X := []) (Y := [262]) (lo := 1) (hi := 0) (fr_0 _ _ _ _ sc_ ai_ al_ az_) hd91 rfl (by decide)) rfl rfl rfl rfl rfl rfl rfl rfl rfl (by omega)
        have hS95 := sjk_fr hi0.1 hK (fr_l (X := []) (Y := [262]) (lo := 1) (hi := 0) (fr_0 _ _ _ _ sc_ ai_ al_ az_) hd91 rfl (by decide)) rfl rfl
        refine w_iinc (A1 := [some (.ref 238), some (.int (vz i1)), some (.int (vz x2)), some (.int (vz x3)), some (.int (vz x4)), some (.long y5), none, some (.int (vz (x7 + 1)))]) e121_100 rfl (by decide) rfl ?_
        refine w_x e121_103 (fun _ => rfl) ?_
        exact w_sub (A1 := [some (.ref 238), some (.int (vz i1)), some (.int (vz x2)), some (.int (vz x3)), some (.int (vz x4)), some (.long y5), none, some (.int (vz (x7 + 1)))]) (And.intro rfl (And.intro rfl (And.intro rfl (And.intro rfl (And.intro rfl (And.intro rfl (And.intro rfl trivial))))))) ((ih.2.2.1) v88 sc_ ai_ al89 az_ x2 x3 x4 y5 (x7 + 1) hM90 hK hI93 hF92 (by omega) (by omega) hx4 (by omega) hR94 (by omega) (by omega))
    ·
      intro vh sc_ ai_ al_ az_ x2 x3 x4 y5 x7 hM hK hJ hF hx2 hx3 hx4 hx7 hi0 hi1 hN
      have hq8 := hi1
      have hn8 := hJ.1.1
      refine w_ldI e121_114 (fun _ => rfl) rfl ?_
      refine w_ldA e121_116 (fun _ => rfl) rfl ?_
      have e96 := tm_o hM
      refine w_get e121_117 e96 rfl ?_
      refine w_ldI e121_120 (fun _ => rfl) rfl ?_
      have e97 := tm_i hM (a := 247) (n := 256) rfl
      refine w_ald e121_121 e97 (by omega) (by omega) (by decide) ?_
      show vm_Wp _ _ _ 122 _ [.int (vz (ai_ 247 (x2).toNat)), .int (vz x7)] _ _
      have hp98 := (hi0.2.2.resolve_left hq8.1).2 (x2).toNat (by omega)
      refine w_ldA e121_122 (fun _ => rfl) rfl ?_
      refine w_get e121_123 e96 rfl ?_
      refine w_ldI e121_126 (fun _ => rfl) rfl ?_
      have e99 := tm_i hM (a := 248) (n := 256) rfl
      refine w_ald e121_127 e99 (by omega) (by omega) (by decide) ?_
      show vm_Wp _ _ _ 128 _ [.int (vz (ai_ 248 (x2).toNat)), .int (vz (ai_ 247 (x2).toNat)), .int (vz x7)] _ _
      have hp100 := (hi0.2.2.resolve_left hq8.1).2 (x2).toNat (by omega)
      refine w_iadd e121_128 ?_
      refine w_ic e121_129 (by omega) (by omega) (fun (h101 : (ai_ 247 (x2).toNat) + (ai_ 248 (x2).toNat) ≤ x7) => ?_) (fun (h101 : x7 < (ai_ 247 (x2).toNat) + (ai_ 248 (x2).toNat)) => ?_)
      ·
        refine w_iinc (A1 := [some (.ref 238), some (.int (vz i1)), some (.int (vz (x2 + 1))), some (.int (vz x3)), some (.int (vz x4)), some (.long y5), none, some (.int (vz x7))]) e121_166 rfl (by decide) rfl ?_
        refine w_x e121_169 (fun _ => rfl) ?_
        exact w_sub (A1 := [some (.ref 238), some (.int (vz i1)), some (.int (vz (x2 + 1))), none, none, none, none, none]) (And.intro rfl (And.intro rfl (And.intro rfl trivial))) ((ih.2.1) vh sc_ ai_ al_ az_ (x2 + 1) hM hK hJ hF (by omega) hi0 (by omega) (by omega))
      ·
        refine w_ldA e121_132 (fun _ => rfl) rfl ?_
        refine w_get e121_133 e96 rfl ?_
        refine w_ldI e121_136 (fun _ => rfl) rfl ?_
        refine w_x e121_137 (fun _ => rfl) ?_
        have e102 := tm_l hM (a := 262) (n := 8) rfl
        refine w_lldO e121_138 e102 (by omega) (by omega) (by decide) (fun l103 => ?_)
        refine w_ldA e121_139 (fun _ => rfl) rfl ?_
        refine w_get e121_140 e96 rfl ?_
        refine w_ldI e121_143 (fun _ => rfl) rfl ?_
        have e104 := tm_l hM (a := 249) (n := 12300) rfl
        refine w_lldO e121_145 e104 (by omega) (by omega) (by decide) (fun l105 => ?_)
        refine w_ldA e121_146 (fun _ => rfl) rfl ?_
        refine w_ldA e121_147 (fun _ => rfl) rfl ?_
        refine w_get e121_148 e96 rfl ?_
        refine w_ldI e121_151 (fun _ => rfl) rfl ?_
        have e106 := tm_l hM (a := 250) (n := 12300) rfl
        refine w_lldO e121_153 e106 (by omega) (by omega) (by decide) (fun l107 => ?_)
        refine w_cv e121_154 (by decide) rfl e96 rfl (Nat.le_of_ble_eq_true rfl) (Nat.le_of_ble_eq_true rfl) (Nat.le_of_ble_eq_true rfl) (by decide) (by decide) (c118 hM hK) (fun o108 v109 hq110 => ?_)
        obtain ⟨rfl, l111, rfl⟩ := hq110
        refine w_oL e121_157 (fun _ => rfl) (fun l112 => ?_)
        refine w_oL e121_158 (fun _ => rfl) (fun l113 => ?_)
        refine w_lst e121_159 e102 (by omega) (by omega) (by decide) (fun v116 b114 h115 => ?_)
        obtain ⟨al117, hd119, hM118⟩ : ∃ z, z = u2 al_ 262 (x3).toNat l113 ∧ tm sc_ ai_ z az_ v0 v116 := ⟨_, rfl, tm_pl hM rfl b114 h115⟩
        have hF120 : fr [0] [262] 70 70 sc ai al az sc_ ai_ al117 az_ := fr_l hF hd119 rfl (by decide)
        have hI121 : gi sc_ ai_ al117 az_ := gi_l hJ hd119 (by decide)
        have hR122 := ri2_fr hi0 hK (fr_l (X := []) (Y := [262]) (lo := 1) (hi := 0) (fr_0 _ _ _ _ sc_ ai_ al_ az_) hd119 rfl (by decide)) rfl rfl rfl rfl rfl rfl rfl rfl rfl (by omega)
        have hS123 := sjk_fr hi0.1 hK (fr_l (X := []) (Y := [262]) (lo := 1) (hi := 0) (fr_0 _ _ _ _ sc_ ai_ al_ az_) hd119 rfl (by decide)) rfl rfl
        refine w_iinc (A1 := [some (.ref 238), some (.int (vz i1)), some (.int (vz x2)), some (.int (vz x3)), some (.int (vz x4)), some (.long y5), none, some (.int (vz (x7 + 1)))]) e121_160 rfl (by decide) rfl ?_
        refine w_x e121_163 (fun _ => rfl) ?_
        exact w_sub (A1 := [some (.ref 238), some (.int (vz i1)), some (.int (vz x2)), some (.int (vz x3)), some (.int (vz x4)), some (.long y5), none, some (.int (vz (x7 + 1)))]) (And.intro rfl (And.intro rfl (And.intro rfl (And.intro rfl (And.intro rfl (And.intro rfl (And.intro rfl trivial))))))) ((ih.2.2.2) v116 sc_ ai_ al117 az_ x2 x3 x4 y5 (x7 + 1) hM118 hK hI121 hF120 (by omega) (by omega) hx4 (by omega) hR122 (by omega) (by omega))
set_option maxRecDepth 100000 in
set_option maxHeartbeats 4000000 in
theorem c121 {sc : Nat → Int} {ai : Nat → Nat → Int} {al : Nat → Nat → Int64} {az : Nat → Nat → Int32} {v0 vh : vm_H} (hM : tm sc ai al az v0 vh) (hK : tmok ai) (hI : gi sc ai al az) {i1 : Int} (hi_1 : -2147483648 ≤ i1 ∧ i1 < 2147483648) (hR : ri2 sc ai al az) : vm_Rp 5 112 121 [.ref 238, .int (vz i1)] vh (fun r v1 => (∃ (sc1 : Nat → Int) (ai1 : Nat → Nat → Int) (al1 : Nat → Nat → Int64) (az1 : Nat → Nat → Int32), tm sc1 ai1 al1 az1 v0 v1 ∧ tmok ai1 ∧ gi sc1 ai1 al1 az1 ∧ fr [0] [262] 70 70 sc ai al az sc1 ai1 al1 az1 ∧ (ri2 sc1 ai1 al1 az1)) ∧ ∃ q : Int64, r = some (.long q)) := by
  have hF0 : fr [0] [262] 70 70 sc ai al az sc ai al az := fr_0 _ _ _ _ _ _ _ _
  have hn8 := hI.1.1
  have hm8 := hR.2.1.1
  refine w_in (m := 6) ?_
  show vm_Wp _ _ _ 0 [some (.ref 238), some (.int (vz i1)), none, none, none, none, none, none] [] _ _
  refine w_ldA e121_0 (fun _ => rfl) rfl ?_
  refine w_kI e121_1 ?_
  have e1 := tm_o hM
  refine w_put e121_2 e1 (Nat.le_of_ble_eq_true rfl) rfl (fun v4 b2 h3 => ?_)
  obtain ⟨sc5, hd7, hM6⟩ : ∃ z, z = u1 sc 0 (0) ∧ tm z ai al az v0 v4 := ⟨_, rfl, tm_ps 0 hM (by omega) b2 h3⟩
  have hs8 : sc5 0 = 0 := by rw [hd7]; exact u1_s
  have hs9 : sc5 1 = sc 1 := by rw [hd7]; exact u1_o (by decide)
  have hs10 : sc5 4 = sc 4 := by rw [hd7]; exact u1_o (by decide)
  have hs11 : sc5 11 = sc 11 := by rw [hd7]; exact u1_o (by decide)
  have hs12 : sc5 18 = sc 18 := by rw [hd7]; exact u1_o (by decide)
  have hs13 : sc5 19 = sc 19 := by rw [hd7]; exact u1_o (by decide)
  have hs14 : sc5 38 = sc 38 := by rw [hd7]; exact u1_o (by decide)
  have hF15 : fr [0] [262] 70 70 sc ai al az sc5 ai al az := fr_s hF0 hd7 rfl
  have hI16 : gi sc5 ai al az := gi_s hI hd7 (by decide) (by decide) (by decide)
  have hR17 := ri2_fr hR hK (fr_s (X := [0]) (Y := []) (lo := 1) (hi := 0) (fr_0 _ _ _ _ sc ai al az) hd7 rfl) rfl rfl rfl rfl rfl rfl rfl rfl rfl (by omega)
  have hS18 := sjk_fr hR.1 hK (fr_s (X := [0]) (Y := []) (lo := 1) (hi := 0) (fr_0 _ _ _ _ sc ai al az) hd7 rfl) rfl rfl
  refine w_ldA e121_5 (fun _ => rfl) rfl ?_
  refine w_ldI e121_6 (fun _ => rfl) rfl ?_
  have e19 := tm_o hM6
  refine w_cv e121_7 (by decide) rfl e19 rfl (Nat.le_of_ble_eq_true rfl) (Nat.le_of_ble_eq_true rfl) (Nat.le_of_ble_eq_true rfl) (by decide) (by decide) (c110 hM6 hK hi_1) (fun o20 v21 hq22 => ?_)
  obtain ⟨rfl, q23, h24, rfl⟩ := hq22
  refine w_if e121_10 (by omega) (fun (h25 : q23 ≠ 0) => ?_) (fun (h25 : q23 = 0) => ?_)
  ·
    refine w_oL e121_20 (fun _ => rfl) (fun l26 => ?_)
    exact w_rl e121_21 rfl ⟨⟨sc5, ai, al, az, hM6, hK, hI16, hF15, hR17⟩, _, rfl⟩
  ·
    refine w_ldA e121_13 (fun _ => rfl) rfl ?_
    refine w_get e121_14 e19 rfl ?_
    refine w_if e121_17 (tm_s hM6 18) (fun (h27 : sc5 18 ≠ 0) => ?_) (fun (h27 : sc5 18 = 0) => ?_)
    ·
      have hp28 := (hR17.2.2.resolve_left h27).1
      refine w_kI e121_22 ?_
      refine w_stI (j := 2) (A1 := [some (.ref 238), some (.int (vz i1)), some (.int (vz 0)), none, none, none, none, none]) e121_23 (fun _ => rfl) (by decide) rfl ?_
      exact w_sub (A1 := [some (.ref 238), some (.int (vz i1)), some (.int (vz 0)), none, none, none, none, none]) (And.intro rfl (And.intro rfl (And.intro rfl trivial))) (((c121_L (sc := sc) (ai := ai) (al := al) (az := az) (v0 := v0) (i1 := i1) hK hI hi_1 hR _).1) v4 sc5 ai al az 0 hM6 hK hI16 hF15 (by omega) hR17 (by omega) (Nat.lt_succ_self _))
    ·
      refine w_oL e121_20 (fun _ => rfl) (fun l29 => ?_)
      exact w_rl e121_21 rfl ⟨⟨sc5, ai, al, az, hM6, hK, hI16, hF15, hR17⟩, _, rfl⟩
