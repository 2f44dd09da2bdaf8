set_option maxRecDepth 100000 in
set_option maxHeartbeats 4000000 in
theorem c80x_L {sc : Nat → Int} {ai : Nat → Nat → Int} {al : Nat → Nat → Int64} {az : Nat → Nat → Int32} {v0 : vm_H} {i1 : Int} (hi_1 : 0 ≤ i1 ∧ i1 < 72) (hn : 0 ≤ sc 1 ∧ sc 1 ≤ 8) : ∀ N : Nat, (∀ (vh : vm_H) (al_ : Nat → Nat → Int64) (x2 : Int) (x3 : Int), (tm sc ai al_ az v0 vh) → (tmok ai) → (x2 = 60 * i1) → (1 ≤ x3 ∧ x3 ≤ 60) → (sfr al al_ (60 * i1).toNat) → ((ls (pr_ al_ (60 * i1).toNat) (ai 242 (i1).toNat).toNat).Perm (ls (pr_ al (60 * i1).toNat) (ai 242 (i1).toNat).toNat)) → (((60 - x3) * 100 + 99 : Int).toNat < N) → vm_Wp 2 47 80 7 [some (.ref 238), some (.int (vz i1)), some (.int (vz x2)), some (.int (vz x3)), none, none, none, none, none, none, none] [] vh (vq_P 80 (fun r v1 => (∃ al1 : Nat → Nat → Int64, sfr al al1 (60 * i1).toNat ∧ (ls (pr_ al1 (60 * i1).toNat) (ai 242 (i1).toNat).toNat).Perm (ls (pr_ al (60 * i1).toNat) (ai 242 (i1).toNat).toNat) ∧ tm sc ai al1 az v0 v1) ∧ r = none))) ∧ (∀ (vh : vm_H) (al_ : Nat → Nat → Int64) (x2 : Int) (x3 : Int) (y4 : Int64) (y6 : Int64) (y8 : Int64) (x10 : Int), (tm sc ai al_ az v0 vh) → (tmok ai) → (x2 = 60 * i1) → (1 ≤ x3 ∧ x3 < ai 242 (i1).toNat) → (0 ≤ x10 ∧ x10 ≤ x3) → (sfr al al_ (60 * i1).toNat) → ((ls (hlr al_ (60 * i1).toNat (x10).toNat y6 y4) (ai 242 (i1).toNat).toNat).Perm (ls (pr_ al (60 * i1).toNat) (ai 242 (i1).toNat).toNat)) → (((60 - x3) * 100 + x10 : Int).toNat < N) → vm_Wp 2 47 80 48 [some (.ref 238), some (.int (vz i1)), some (.int (vz x2)), some (.int (vz x3)), some (.long y4), none, some (.long y6), none, some (.long y8), none, some (.int (vz x10))] [] vh (vq_P 80 (fun r v1 => (∃ al1 : Nat → Nat → Int64, sfr al al1 (60 * i1).toNat ∧ (ls (pr_ al1 (60 * i1).toNat) (ai 242 (i1).toNat).toNat).Perm (ls (pr_ al (60 * i1).toNat) (ai 242 (i1).toNat).toNat) ∧ tm sc ai al1 az v0 v1) ∧ r = none))) := by
  intro N
  induction N with
  | zero => exact ⟨by intros; omega, by intros; omega⟩
  | succ N ih =>
    refine ⟨?_, ?_⟩
    ·
      intro vh al_ x2 x3 hM hK hx2 hx3 hi0 hi1 hN
      have hcg := hK.1 (i1).toNat
      refine w_ldI e80_7 (fun _ => rfl) rfl ?_
      refine w_ldA e80_8 (fun _ => rfl) rfl ?_
      have e1 := tm_o hM
      refine w_get e80_9 e1 rfl ?_
      refine w_ldI e80_12 (fun _ => rfl) rfl ?_
      have e2 := tm_i hM (a := 242) (n := 72) rfl
      refine w_ald e80_13 e2 (by omega) (by omega) (by decide) ?_
      show vm_Wp _ _ _ 14 _ [.int (vz (ai 242 (i1).toNat)), .int (vz x3)] _ _
      have hk3 := hK.1 (i1).toNat
      refine w_ic e80_14 (by omega) (tm_r hM 242 (i1).toNat) (fun (h4 : ai 242 (i1).toNat ≤ x3) => ?_) (fun (h4 : x3 < ai 242 (i1).toNat) => ?_)
      ·
        exact w_rv e80_148 rfl ⟨⟨al_, hi0, hi1, hM⟩, rfl⟩
      ·
        refine w_ldA e80_17 (fun _ => rfl) rfl ?_
        refine w_get e80_18 e1 rfl ?_
        refine w_ldI e80_21 (fun _ => rfl) rfl ?_
        refine w_ldI e80_22 (fun _ => rfl) rfl ?_
        refine w_iadd e80_23 ?_
        have e5 := tm_l hM (a := 243) (n := 4320) rfl
        refine w_lld e80_24 e5 (by omega) (by omega) (by decide) ?_
        refine w_stL (j := 4) (A1 := [some (.ref 238), some (.int (vz i1)), some (.int (vz x2)), some (.int (vz x3)), some (.long ((al_ 243 (x2 + x3).toNat))), none, none, none, none, none, none]) e80_25 (fun _ => rfl) (by decide) rfl ?_
        refine w_ldA e80_27 (fun _ => rfl) rfl ?_
        refine w_get e80_28 e1 rfl ?_
        refine w_ldI e80_31 (fun _ => rfl) rfl ?_
        refine w_ldI e80_32 (fun _ => rfl) rfl ?_
        refine w_iadd e80_33 ?_
        have e6 := tm_l hM (a := 244) (n := 4320) rfl
        refine w_lld e80_34 e6 (by omega) (by omega) (by decide) ?_
        refine w_stL (j := 6) (A1 := [some (.ref 238), some (.int (vz i1)), some (.int (vz x2)), some (.int (vz x3)), some (.long ((al_ 243 (x2 + x3).toNat))), none, some (.long ((al_ 244 (x2 + x3).toNat))), none, none, none, none]) e80_35 (fun _ => rfl) (by decide) rfl ?_
        refine w_ldA e80_37 (fun _ => rfl) rfl ?_
        refine w_ldL e80_38 (fun _ => rfl) rfl ?_
        refine w_cv e80_40 (by decide) rfl e1 rfl (Nat.le_of_ble_eq_true rfl) (Nat.le_of_ble_eq_true rfl) (Nat.le_of_ble_eq_true rfl) (by decide) (by decide) (c79 hM hK (by omega)) (fun o7 v8 hq9 => ?_)
        obtain ⟨rfl, l10, rfl⟩ := hq9
        refine w_stL (j := 8) (A1 := [some (.ref 238), some (.int (vz i1)), some (.int (vz x2)), some (.int (vz x3)), some (.long ((al_ 243 (x2 + x3).toNat))), none, some (.long ((al_ 244 (x2 + x3).toNat))), none, some (.long l10), none, none]) e80_43 (fun _ => rfl) (by decide) rfl ?_
        refine w_ldI e80_45 (fun _ => rfl) rfl ?_
        refine w_stI (j := 10) (A1 := [some (.ref 238), some (.int (vz i1)), some (.int (vz x2)), some (.int (vz x3)), some (.long ((al_ 243 (x2 + x3).toNat))), none, some (.long ((al_ 244 (x2 + x3).toNat))), none, some (.long l10), none, some (.int (vz x3))]) e80_46 (fun _ => rfl) (by decide) rfl ?_
        exact w_sub (A1 := [some (.ref 238), some (.int (vz i1)), some (.int (vz x2)), some (.int (vz x3)), some (.long ((al_ 243 (x2 + x3).toNat))), none, some (.long ((al_ 244 (x2 + x3).toNat))), none, some (.long l10), none, some (.int (vz x3))]) (And.intro rfl (And.intro rfl (And.intro rfl (And.intro rfl (And.intro rfl (And.intro rfl (And.intro rfl (And.intro rfl trivial)))))))) ((ih.2) vh al_ x2 x3 ((al_ 243 (x2 + x3).toNat)) ((al_ 244 (x2 + x3).toNat)) l10 x3 hM hK (by omega) (by omega) (by omega) hi0 (by rw [hlr_0 ⟨by omega, hx2⟩ (by omega) rfl rfl]; exact hi1) (by omega))
    ·
      intro vh al_ x2 x3 y4 y6 y8 x10 hM hK hx2 hx3 hx10 hi0 hi1 hN
      have hcg := hK.1 (i1).toNat
      refine w_ldI e80_48 (fun _ => rfl) rfl ?_
      refine w_if e80_50 (by omega) (fun (h11 : x10 ≤ 0) => ?_) (fun (h11 : 0 < x10) => ?_)
      ·
        refine w_ldA e80_120 (fun _ => rfl) rfl ?_
        have e12 := tm_o hM
        refine w_get e80_121 e12 rfl ?_
        refine w_ldI e80_124 (fun _ => rfl) rfl ?_
        refine w_ldI e80_125 (fun _ => rfl) rfl ?_
        refine w_iadd e80_127 ?_
        refine w_ldL e80_128 (fun _ => rfl) rfl ?_
        have e13 := tm_l hM (a := 243) (n := 4320) rfl
        refine w_lst e80_130 e13 (by omega) (by omega) (by decide) (fun v16 b14 h15 => ?_)
        obtain ⟨al17, hd19, hM18⟩ : ∃ z, z = u2 al_ 243 (x2 + x10).toNat y4 ∧ tm sc ai z az v0 v16 := ⟨_, rfl, tm_pl hM rfl b14 h15⟩
        refine w_ldA e80_131 (fun _ => rfl) rfl ?_
        have e20 := tm_o hM18
        refine w_get e80_132 e20 rfl ?_
        refine w_ldI e80_135 (fun _ => rfl) rfl ?_
        refine w_ldI e80_136 (fun _ => rfl) rfl ?_
        refine w_iadd e80_138 ?_
        refine w_ldL e80_139 (fun _ => rfl) rfl ?_
        have e21 := tm_l hM18 (a := 244) (n := 4320) rfl
        refine w_lst e80_141 e21 (by omega) (by omega) (by decide) (fun v24 b22 h23 => ?_)
        obtain ⟨al25, hd27, hM26⟩ : ∃ z, z = u2 al17 244 (x2 + x10).toNat y6 ∧ tm sc ai z az v0 v24 := ⟨_, rfl, tm_pl hM18 rfl b22 h23⟩
        refine w_iinc (A1 := [some (.ref 238), some (.int (vz i1)), some (.int (vz x2)), some (.int (vz (x3 + 1))), some (.long y4), none, some (.long y6), none, some (.long y8), none, some (.int (vz x10))]) e80_142 rfl (by decide) rfl ?_
        refine w_x e80_145 (fun _ => rfl) ?_
        exact w_sub (A1 := [some (.ref 238), some (.int (vz i1)), some (.int (vz x2)), some (.int (vz (x3 + 1))), none, none, none, none, none, none, none]) (And.intro rfl (And.intro rfl (And.intro rfl (And.intro rfl trivial)))) ((ih.1) v24 al25 x2 (x3 + 1) hM26 hK (by omega) (by omega) (sfr_k (sfr_c hi0 hd19 (by omega)) hd27 (by omega)) (by rw [hlr_e ⟨by omega, hx2⟩ (by omega) hd19 hd27]; exact hi1) (by omega))
      ·
        refine w_ldA e80_53 (fun _ => rfl) rfl ?_
        refine w_ldA e80_54 (fun _ => rfl) rfl ?_
        have e28 := tm_o hM
        refine w_get e80_55 e28 rfl ?_
        refine w_ldI e80_58 (fun _ => rfl) rfl ?_
        refine w_ldI e80_59 (fun _ => rfl) rfl ?_
        refine w_iadd e80_61 ?_
        refine w_kI e80_62 ?_
        refine w_isub e80_63 ?_
        have e29 := tm_l hM (a := 244) (n := 4320) rfl
        refine w_lld e80_64 e29 (by omega) (by omega) (by decide) ?_
        refine w_cv e80_65 (by decide) rfl e28 rfl (Nat.le_of_ble_eq_true rfl) (Nat.le_of_ble_eq_true rfl) (Nat.le_of_ble_eq_true rfl) (by decide) (by decide) (c79 hM hK (by omega)) (fun o30 v31 hq32 => ?_)
        obtain ⟨rfl, l33, rfl⟩ := hq32
        refine w_ldL e80_68 (fun _ => rfl) rfl ?_
        refine w_lcmp e80_70 (fun q34 (h35 : -1 ≤ q34 ∧ q34 ≤ 1) h36 h37 => ?_)
        refine w_if e80_71 (by omega) (fun (h38 : 0 ≤ q34) => ?_) (fun (h38 : q34 < 0) => ?_)
        ·
          refine w_ldA e80_120 (fun _ => rfl) rfl ?_
          refine w_get e80_121 e28 rfl ?_
          refine w_ldI e80_124 (fun _ => rfl) rfl ?_
          refine w_ldI e80_125 (fun _ => rfl) rfl ?_
          refine w_iadd e80_127 ?_
          refine w_ldL e80_128 (fun _ => rfl) rfl ?_
          have e39 := tm_l hM (a := 243) (n := 4320) rfl
          refine w_lst e80_130 e39 (by omega) (by omega) (by decide) (fun v42 b40 h41 => ?_)
          obtain ⟨al43, hd45, hM44⟩ : ∃ z, z = u2 al_ 243 (x2 + x10).toNat y4 ∧ tm sc ai z az v0 v42 := ⟨_, rfl, tm_pl hM rfl b40 h41⟩
          refine w_ldA e80_131 (fun _ => rfl) rfl ?_
          have e46 := tm_o hM44
          refine w_get e80_132 e46 rfl ?_
          refine w_ldI e80_135 (fun _ => rfl) rfl ?_
          refine w_ldI e80_136 (fun _ => rfl) rfl ?_
          refine w_iadd e80_138 ?_
          refine w_ldL e80_139 (fun _ => rfl) rfl ?_
          have e47 := tm_l hM44 (a := 244) (n := 4320) rfl
          refine w_lst e80_141 e47 (by omega) (by omega) (by decide) (fun v50 b48 h49 => ?_)
          obtain ⟨al51, hd53, hM52⟩ : ∃ z, z = u2 al43 244 (x2 + x10).toNat y6 ∧ tm sc ai z az v0 v50 := ⟨_, rfl, tm_pl hM44 rfl b48 h49⟩
          refine w_iinc (A1 := [some (.ref 238), some (.int (vz i1)), some (.int (vz x2)), some (.int (vz (x3 + 1))), some (.long y4), none, some (.long y6), none, some (.long y8), none, some (.int (vz x10))]) e80_142 rfl (by decide) rfl ?_
          refine w_x e80_145 (fun _ => rfl) ?_
          exact w_sub (A1 := [some (.ref 238), some (.int (vz i1)), some (.int (vz x2)), some (.int (vz (x3 + 1))), none, none, none, none, none, none, none]) (And.intro rfl (And.intro rfl (And.intro rfl (And.intro rfl trivial)))) ((ih.1) v50 al51 x2 (x3 + 1) hM52 hK (by omega) (by omega) (sfr_k (sfr_c hi0 hd45 (by omega)) hd53 (by omega)) (by rw [hlr_e ⟨by omega, hx2⟩ (by omega) hd45 hd53]; exact hi1) (by omega))
        ·
          refine w_ldA e80_74 (fun _ => rfl) rfl ?_
          refine w_get e80_75 e28 rfl ?_
          refine w_ldI e80_78 (fun _ => rfl) rfl ?_
          refine w_ldI e80_79 (fun _ => rfl) rfl ?_
          refine w_iadd e80_81 ?_
          refine w_ldA e80_82 (fun _ => rfl) rfl ?_
          refine w_get e80_83 e28 rfl ?_
          refine w_ldI e80_86 (fun _ => rfl) rfl ?_
          refine w_ldI e80_87 (fun _ => rfl) rfl ?_
          refine w_iadd e80_89 ?_
          refine w_kI e80_90 ?_
          refine w_isub e80_91 ?_
          have e54 := tm_l hM (a := 243) (n := 4320) rfl
          refine w_lld e80_92 e54 (by omega) (by omega) (by decide) ?_
          refine w_lst e80_93 e54 (by omega) (by omega) (by decide) (fun v57 b55 h56 => ?_)
          obtain ⟨al58, hd60, hM59⟩ : ∃ z, z = u2 al_ 243 (x2 + x10).toNat ((al_ 243 ((x2 + x10) - 1).toNat)) ∧ tm sc ai z az v0 v57 := ⟨_, rfl, tm_pl hM rfl b55 h56⟩
          refine w_ldA e80_94 (fun _ => rfl) rfl ?_
          have e61 := tm_o hM59
          refine w_get e80_95 e61 rfl ?_
          refine w_ldI e80_98 (fun _ => rfl) rfl ?_
          refine w_ldI e80_99 (fun _ => rfl) rfl ?_
          refine w_iadd e80_101 ?_
          refine w_ldA e80_102 (fun _ => rfl) rfl ?_
          refine w_get e80_103 e61 rfl ?_
          refine w_ldI e80_106 (fun _ => rfl) rfl ?_
          refine w_ldI e80_107 (fun _ => rfl) rfl ?_
          refine w_iadd e80_109 ?_
          refine w_kI e80_110 ?_
          refine w_isub e80_111 ?_
          have e62 := tm_l hM59 (a := 244) (n := 4320) rfl
          refine w_lld e80_112 e62 (by omega) (by omega) (by decide) ?_
          refine w_lst e80_113 e62 (by omega) (by omega) (by decide) (fun v65 b63 h64 => ?_)
          obtain ⟨al66, hd68, hM67⟩ : ∃ z, z = u2 al58 244 (x2 + x10).toNat ((al58 244 ((x2 + x10) - 1).toNat)) ∧ tm sc ai z az v0 v65 := ⟨_, rfl, tm_pl hM59 rfl b63 h64⟩
          refine w_iinc (A1 := [some (.ref 238), some (.int (vz i1)), some (.int (vz x2)), some (.int (vz x3)), some (.long y4), none, some (.long y6), none, some (.long y8), none, some (.int (vz (x10 + (-1))))]) e80_114 rfl (by decide) rfl ?_
          refine w_x e80_117 (fun _ => rfl) ?_
          exact w_sub (A1 := [some (.ref 238), some (.int (vz i1)), some (.int (vz x2)), some (.int (vz x3)), some (.long y4), none, some (.long y6), none, some (.long y8), none, some (.int (vz (x10 + (-1))))]) (And.intro rfl (And.intro rfl (And.intro rfl (And.intro rfl (And.intro rfl (And.intro rfl (And.intro rfl (And.intro rfl trivial)))))))) ((ih.2) v65 al66 x2 x3 y4 y6 y8 (x10 + (-1)) hM67 hK (by omega) (by omega) (by omega) (sfr_k (sfr_c hi0 hd60 (by omega)) hd68 (by omega)) ((hlr_s ⟨by omega, hx2⟩ (by omega) hd60 hd68).trans hi1) (by omega))
set_option maxRecDepth 100000 in
set_option maxHeartbeats 4000000 in
theorem c80x {sc : Nat → Int} {ai : Nat → Nat → Int} {al : Nat → Nat → Int64} {az : Nat → Nat → Int32} {v0 vh : vm_H} (hM : tm sc ai al az v0 vh) (hK : tmok ai) {i1 : Int} (hi_1 : 0 ≤ i1 ∧ i1 < 72) (hn : 0 ≤ sc 1 ∧ sc 1 ≤ 8) : vm_Rp 2 47 80 [.ref 238, .int (vz i1)] vh (fun r v1 => (∃ al1 : Nat → Nat → Int64, sfr al al1 (60 * i1).toNat ∧ (ls (pr_ al1 (60 * i1).toNat) (ai 242 (i1).toNat).toNat).Perm (ls (pr_ al (60 * i1).toNat) (ai 242 (i1).toNat).toNat) ∧ tm sc ai al1 az v0 v1) ∧ r = none) := by
  have hcg := hK.1 (i1).toNat
  refine w_in (m := 9) ?_
  show vm_Wp _ _ _ 0 [some (.ref 238), some (.int (vz i1)), none, none, none, none, none, none, none, none, none] [] _ _
  refine w_kB e80_0 rfl ?_
  refine w_ldI e80_2 (fun _ => rfl) rfl ?_
  refine w_imul e80_3 ?_
  refine w_stI (j := 2) (A1 := [some (.ref 238), some (.int (vz i1)), some (.int (vz (60 * i1))), none, none, none, none, none, none, none, none]) e80_4 (fun _ => rfl) (by decide) rfl ?_
  refine w_kI e80_5 ?_
  refine w_stI (j := 3) (A1 := [some (.ref 238), some (.int (vz i1)), some (.int (vz (60 * i1))), some (.int (vz 1)), none, none, none, none, none, none, none]) e80_6 (fun _ => rfl) (by decide) rfl ?_
  exact w_sub (A1 := [some (.ref 238), some (.int (vz i1)), some (.int (vz (60 * i1))), some (.int (vz 1)), none, none, none, none, none, none, none]) (And.intro rfl (And.intro rfl (And.intro rfl (And.intro rfl trivial)))) (((c80x_L (sc := sc) (ai := ai) (al := al) (az := az) (v0 := v0) (i1 := i1) hi_1 hn _).1) vh al (60 * i1) 1 hM hK (by omega) (by omega) sfr_0 (List.Perm.refl _) (Nat.lt_succ_self _))
