set_option maxRecDepth 100000 in
set_option maxHeartbeats 4000000 in
theorem r80_L {sc : Nat → Int} {ai : Nat → Nat → Int} {al : Nat → Nat → Int64} {az : Nat → Nat → Int32} {v0 : vm_H} (hK : tmok ai) {i1 : Int} (hi_1 : 0 ≤ i1 ∧ i1 < 72) {nv : Nat} (hv : sc 1 = (nv : Int)) (hV : pmV (vR ai) nv) {l : Po} (hL : qL (vR ai) nv ai al (i1).toNat l) (hgl : ∀ x, x ∈ l → x.1 < 256 ^ nv ∧ x.1 < 2 ^ 63) : ∀ N : Nat, (∀ (vh : vm_H) (al_ : Nat → Nat → Int64) (x3 : Int), (tm sc ai al_ az v0 vh) → (1 ≤ x3 ∧ x3 ≤ 60) → (soO (vR ai) nv al al_ (i1).toNat (ai 242 (i1).toNat).toNat l x3) → (((60 - x3) * 100 + 99 : Int).toNat < N) → vm_Wp 2 47 80 7 [some (.ref 238), some (.int (vz i1)), some (.int (vz (60 * i1))), some (.int (vz x3)), none, none, none, none, none, none, none] [] vh (vq_P 80 (fun r v1 => (∃ al1 : Nat → Nat → Int64, (slF al al1 (i1).toNat ∧ ∃ l1, l1.Perm l ∧ l1.Pairwise (fun x y => y.1 ≤ x.1) ∧ qL (vR ai) nv ai al1 (i1).toNat l1) ∧ tm sc ai al1 az v0 v1) ∧ r = none))) ∧ (∀ (vh : vm_H) (al_ : Nat → Nat → Int64) (x3 : Int) (y4 : Int64) (y6 : Int64) (y8 : Int64) (x10 : Int), (tm sc ai al_ az v0 vh) → (1 ≤ x3 ∧ x3 < ai 242 (i1).toNat) → (0 ≤ x10 ∧ x10 ≤ x3) → (soN (vR ai) nv al al_ (i1).toNat (ai 242 (i1).toNat).toNat l y4 y6 y8 x10 x3) → (((60 - x3) * 100 + x10 : Int).toNat < N) → vm_Wp 2 47 80 48 [some (.ref 238), some (.int (vz i1)), some (.int (vz (60 * i1))), some (.int (vz x3)), some (.long y4), none, some (.long y6), none, some (.long y8), none, some (.int (vz x10))] [] vh (vq_P 80 (fun r v1 => (∃ al1 : Nat → Nat → Int64, (slF al al1 (i1).toNat ∧ ∃ l1, l1.Perm l ∧ l1.Pairwise (fun x y => y.1 ≤ x.1) ∧ qL (vR ai) nv ai al1 (i1).toNat l1) ∧ tm sc ai al1 az v0 v1) ∧ r = none))) := by
  have hcg := hK.1 (i1).toNat
  have hl1 := hL.1
  intro N
  induction N with
  | zero => exact ⟨by intros; omega, by intros; omega⟩
  | succ N ih =>
    refine ⟨?_, ?_⟩
    ·
      intro vh al_ x3 hM hx3 hi0 hN
      refine w_ldI e80_7 (fun _ => rfl) rfl ?_
      refine w_ldA e80_8 (fun _ => rfl) rfl ?_
      have e1 := tm_o hM
      refine w_get e80_9 e1 rfl ?_
      refine w_ldI e80_12 (fun _ => rfl) rfl ?_
      have e2 := tm_i hM (a := 242) (n := 72) rfl
      refine w_ald e80_13 e2 (by omega) (by omega) (by decide) ?_
      show vm_Wp _ _ _ 14 _ [.int (vz (ai 242 (i1).toNat)), .int (vz x3)] _ _
      have hk3 := hK.1 (i1).toNat
      refine w_ic e80_14 (by omega) (tm_r hM 242 (i1).toNat) (fun (h4 : ai 242 (i1).toNat ≤ x3) => ?_) (fun (h4 : x3 < ai 242 (i1).toNat) => ?_)
      ·
        exact w_rv e80_148 rfl ⟨⟨al_, so_fin hi0 (by omega) (by omega) hgl, hM⟩, rfl⟩
      ·
        obtain ⟨K, F, hA, hPm, hsr⟩ := hi0
        obtain ⟨N1, hN1, hN2, hN3⟩ := hA.2.1 (x3).toNat (by omega)
        refine w_ldA e80_17 (fun _ => rfl) rfl ?_
        refine w_get e80_18 e1 rfl ?_
        refine w_ldI e80_21 (fun _ => rfl) rfl ?_
        refine w_ldI e80_22 (fun _ => rfl) rfl ?_
        refine w_iadd e80_23 ?_
        have e5 := tm_l hM (a := 243) (n := 4320) rfl
        refine w_lld e80_24 e5 (by omega) (by omega) (by decide) ?_
        refine w_stL (j := 4) (A1 := [some (.ref 238), some (.int (vz i1)), some (.int (vz (60 * i1))), some (.int (vz x3)), some (.long ((al_ 243 ((60 * i1) + x3).toNat))), none, none, none, none, none, none]) e80_25 (fun _ => rfl) (by decide) rfl ?_
        refine w_ldA e80_27 (fun _ => rfl) rfl ?_
        refine w_get e80_28 e1 rfl ?_
        refine w_ldI e80_31 (fun _ => rfl) rfl ?_
        refine w_ldI e80_32 (fun _ => rfl) rfl ?_
        refine w_iadd e80_33 ?_
        have e6 := tm_l hM (a := 244) (n := 4320) rfl
        refine w_lld e80_34 e6 (by omega) (by omega) (by decide) ?_
        refine w_stL (j := 6) (A1 := [some (.ref 238), some (.int (vz i1)), some (.int (vz (60 * i1))), some (.int (vz x3)), some (.long ((al_ 243 ((60 * i1) + x3).toNat))), none, some (.long ((al_ 244 ((60 * i1) + x3).toNat))), none, none, none, none]) e80_35 (fun _ => rfl) (by decide) rfl ?_
        refine w_ldA e80_37 (fun _ => rfl) rfl ?_
        refine w_ldL e80_38 (fun _ => rfl) rfl ?_
        refine w_cv e80_40 (by decide) rfl e1 rfl (Nat.le_of_ble_eq_true rfl) (Nat.le_of_ble_eq_true rfl) (Nat.le_of_ble_eq_true rfl) (by decide) (by decide) (r79 hM hK hv hV (by rw [so_x (by omega) (by omega)]; exact hN3) hN2.1) (fun o7 v8 hq9 => ?_)
        obtain ⟨rfl, rfl⟩ := hq9
        refine w_stL (j := 8) (A1 := [some (.ref 238), some (.int (vz i1)), some (.int (vz (60 * i1))), some (.int (vz x3)), some (.long ((al_ 243 ((60 * i1) + x3).toNat))), none, some (.long ((al_ 244 ((60 * i1) + x3).toNat))), none, some (.long ((Int64.ofNat N1))), none, none]) e80_43 (fun _ => rfl) (by decide) rfl ?_
        refine w_ldI e80_45 (fun _ => rfl) rfl ?_
        refine w_stI (j := 10) (A1 := [some (.ref 238), some (.int (vz i1)), some (.int (vz (60 * i1))), some (.int (vz x3)), some (.long ((al_ 243 ((60 * i1) + x3).toNat))), none, some (.long ((al_ 244 ((60 * i1) + x3).toNat))), none, some (.long ((Int64.ofNat N1))), none, some (.int (vz x3))]) e80_46 (fun _ => rfl) (by decide) rfl ?_
        exact w_sub (A1 := [some (.ref 238), some (.int (vz i1)), some (.int (vz (60 * i1))), some (.int (vz x3)), some (.long ((al_ 243 ((60 * i1) + x3).toNat))), none, some (.long ((al_ 244 ((60 * i1) + x3).toNat))), none, some (.long ((Int64.ofNat N1))), none, some (.int (vz x3))]) (And.intro rfl (And.intro rfl (And.intro rfl (And.intro rfl (And.intro rfl (And.intro rfl (And.intro rfl (And.intro rfl trivial)))))))) ((ih.2) vh al_ x3 ((al_ 243 ((60 * i1) + x3).toNat)) ((al_ 244 ((60 * i1) + x3).toNat)) ((Int64.ofNat N1)) x3 hM (by omega) (by omega) (so_in hA hPm hsr (by omega) ⟨hN1, hN2, hN3⟩ (by rw [so_x (by omega) (by omega)]) (by rw [so_x (by omega) (by omega)])) (by omega))
    ·
      intro vh al_ x3 y4 y6 y8 x10 hM hx3 hx10 hi0 hN
      have hi0b := hi0
      obtain ⟨hr9, K, F, hA, hPm, hsh⟩ := hi0b
      refine w_ldI e80_48 (fun _ => rfl) rfl ?_
      refine w_if e80_50 (by omega) (fun (h10 : x10 ≤ 0) => ?_) (fun (h10 : 0 < x10) => ?_)
      ·
        refine w_ldA e80_120 (fun _ => rfl) rfl ?_
        have e11 := tm_o hM
        refine w_get e80_121 e11 rfl ?_
        refine w_ldI e80_124 (fun _ => rfl) rfl ?_
        refine w_ldI e80_125 (fun _ => rfl) rfl ?_
        refine w_iadd e80_127 ?_
        refine w_ldL e80_128 (fun _ => rfl) rfl ?_
        have e12 := tm_l hM (a := 243) (n := 4320) rfl
        refine w_lst e80_130 e12 (by omega) (by omega) (by decide) (fun v15 b13 h14 => ?_)
        obtain ⟨al16, hd18, hM17⟩ : ∃ z, z = u2 al_ 243 ((60 * i1) + x10).toNat y4 ∧ tm sc ai z az v0 v15 := ⟨_, rfl, tm_pl hM rfl b13 h14⟩
        refine w_ldA e80_131 (fun _ => rfl) rfl ?_
        have e19 := tm_o hM17
        refine w_get e80_132 e19 rfl ?_
        refine w_ldI e80_135 (fun _ => rfl) rfl ?_
        refine w_ldI e80_136 (fun _ => rfl) rfl ?_
        refine w_iadd e80_138 ?_
        refine w_ldL e80_139 (fun _ => rfl) rfl ?_
        have e20 := tm_l hM17 (a := 244) (n := 4320) rfl
        refine w_lst e80_141 e20 (by omega) (by omega) (by decide) (fun v23 b21 h22 => ?_)
        obtain ⟨al24, hd26, hM25⟩ : ∃ z, z = u2 al16 244 ((60 * i1) + x10).toNat y6 ∧ tm sc ai z az v0 v23 := ⟨_, rfl, tm_pl hM17 rfl b21 h22⟩
        refine w_iinc (A1 := [some (.ref 238), some (.int (vz i1)), some (.int (vz (60 * i1))), some (.int (vz (x3 + 1))), some (.long y4), none, some (.long y6), none, some (.long y8), none, some (.int (vz x10))]) e80_142 rfl (by decide) rfl ?_
        refine w_x e80_145 (fun _ => rfl) ?_
        exact w_sub (A1 := [some (.ref 238), some (.int (vz i1)), some (.int (vz (60 * i1))), some (.int (vz (x3 + 1))), none, none, none, none, none, none, none]) (And.intro rfl (And.intro rfl (And.intro rfl (And.intro rfl trivial)))) ((ih.1) v23 al24 (x3 + 1) hM25 (by omega) (so_end hi0 (by omega) (by omega) (Or.inl (by omega)) (so_x (by omega) hx10.1) hd18 hd26) (by omega))
      ·
        obtain ⟨N1, hN1, hN2, hN3⟩ := hA.2.1 (x10 - 1).toNat (by omega)
        refine w_ldA e80_53 (fun _ => rfl) rfl ?_
        refine w_ldA e80_54 (fun _ => rfl) rfl ?_
        have e27 := tm_o hM
        refine w_get e80_55 e27 rfl ?_
        refine w_ldI e80_58 (fun _ => rfl) rfl ?_
        refine w_ldI e80_59 (fun _ => rfl) rfl ?_
        refine w_iadd e80_61 ?_
        refine w_kI e80_62 ?_
        refine w_isub e80_63 ?_
        have e28 := tm_l hM (a := 244) (n := 4320) rfl
        refine w_lld e80_64 e28 (by omega) (by omega) (by decide) ?_
        refine w_cv e80_65 (by decide) rfl e27 rfl (Nat.le_of_ble_eq_true rfl) (Nat.le_of_ble_eq_true rfl) (Nat.le_of_ble_eq_true rfl) (by decide) (by decide) (r79 hM hK hv hV (by rw [so_x1 (by omega) (by omega)]; exact hN3) hN2.1) (fun o29 v30 hq31 => ?_)
        obtain ⟨rfl, rfl⟩ := hq31
        refine w_ldL e80_68 (fun _ => rfl) rfl ?_
        refine w_lcmp e80_70 (fun q32 (h33 : -1 ≤ q32 ∧ q32 ≤ 1) h34 h35 => ?_)
        refine w_if e80_71 (by omega) (fun (h36 : 0 ≤ q32) => ?_) (fun (h36 : q32 < 0) => ?_)
        ·
          refine w_ldA e80_120 (fun _ => rfl) rfl ?_
          refine w_get e80_121 e27 rfl ?_
          refine w_ldI e80_124 (fun _ => rfl) rfl ?_
          refine w_ldI e80_125 (fun _ => rfl) rfl ?_
          refine w_iadd e80_127 ?_
          refine w_ldL e80_128 (fun _ => rfl) rfl ?_
          have e37 := tm_l hM (a := 243) (n := 4320) rfl
          refine w_lst e80_130 e37 (by omega) (by omega) (by decide) (fun v40 b38 h39 => ?_)
          obtain ⟨al41, hd43, hM42⟩ : ∃ z, z = u2 al_ 243 ((60 * i1) + x10).toNat y4 ∧ tm sc ai z az v0 v40 := ⟨_, rfl, tm_pl hM rfl b38 h39⟩
          refine w_ldA e80_131 (fun _ => rfl) rfl ?_
          have e44 := tm_o hM42
          refine w_get e80_132 e44 rfl ?_
          refine w_ldI e80_135 (fun _ => rfl) rfl ?_
          refine w_ldI e80_136 (fun _ => rfl) rfl ?_
          refine w_iadd e80_138 ?_
          refine w_ldL e80_139 (fun _ => rfl) rfl ?_
          have e45 := tm_l hM42 (a := 244) (n := 4320) rfl
          refine w_lst e80_141 e45 (by omega) (by omega) (by decide) (fun v48 b46 h47 => ?_)
          obtain ⟨al49, hd51, hM50⟩ : ∃ z, z = u2 al41 244 ((60 * i1) + x10).toNat y6 ∧ tm sc ai z az v0 v48 := ⟨_, rfl, tm_pl hM42 rfl b46 h47⟩
          refine w_iinc (A1 := [some (.ref 238), some (.int (vz i1)), some (.int (vz (60 * i1))), some (.int (vz (x3 + 1))), some (.long y4), none, some (.long y6), none, some (.long y8), none, some (.int (vz x10))]) e80_142 rfl (by decide) rfl ?_
          refine w_x e80_145 (fun _ => rfl) ?_
          exact w_sub (A1 := [some (.ref 238), some (.int (vz i1)), some (.int (vz (60 * i1))), some (.int (vz (x3 + 1))), none, none, none, none, none, none, none]) (And.intro rfl (And.intro rfl (And.intro rfl (And.intro rfl trivial)))) ((ih.1) v48 al49 (x3 + 1) hM50 (by omega) (so_end hi0 (by omega) (by omega) (Or.inr (fun M hM1 hM2 => so_ge hV hN2.1 hM2 (by rw [← hN3, hM1]) h35 (by omega))) (so_x (by omega) hx10.1) hd43 hd51) (by omega))
        ·
          refine w_ldA e80_74 (fun _ => rfl) rfl ?_
          refine w_get e80_75 e27 rfl ?_
          refine w_ldI e80_78 (fun _ => rfl) rfl ?_
          refine w_ldI e80_79 (fun _ => rfl) rfl ?_
          refine w_iadd e80_81 ?_
          refine w_ldA e80_82 (fun _ => rfl) rfl ?_
          refine w_get e80_83 e27 rfl ?_
          refine w_ldI e80_86 (fun _ => rfl) rfl ?_
          refine w_ldI e80_87 (fun _ => rfl) rfl ?_
          refine w_iadd e80_89 ?_
          refine w_kI e80_90 ?_
          refine w_isub e80_91 ?_
          have e52 := tm_l hM (a := 243) (n := 4320) rfl
          refine w_lld e80_92 e52 (by omega) (by omega) (by decide) ?_
          refine w_lst e80_93 e52 (by omega) (by omega) (by decide) (fun v55 b53 h54 => ?_)
          obtain ⟨al56, hd58, hM57⟩ : ∃ z, z = u2 al_ 243 ((60 * i1) + x10).toNat ((al_ 243 (((60 * i1) + x10) - 1).toNat)) ∧ tm sc ai z az v0 v55 := ⟨_, rfl, tm_pl hM rfl b53 h54⟩
          refine w_ldA e80_94 (fun _ => rfl) rfl ?_
          have e59 := tm_o hM57
          refine w_get e80_95 e59 rfl ?_
          refine w_ldI e80_98 (fun _ => rfl) rfl ?_
          refine w_ldI e80_99 (fun _ => rfl) rfl ?_
          refine w_iadd e80_101 ?_
          refine w_ldA e80_102 (fun _ => rfl) rfl ?_
          refine w_get e80_103 e59 rfl ?_
          refine w_ldI e80_106 (fun _ => rfl) rfl ?_
          refine w_ldI e80_107 (fun _ => rfl) rfl ?_
          refine w_iadd e80_109 ?_
          refine w_kI e80_110 ?_
          refine w_isub e80_111 ?_
          have e60 := tm_l hM57 (a := 244) (n := 4320) rfl
          refine w_lld e80_112 e60 (by omega) (by omega) (by decide) ?_
          refine w_lst e80_113 e60 (by omega) (by omega) (by decide) (fun v63 b61 h62 => ?_)
          obtain ⟨al64, hd66, hM65⟩ : ∃ z, z = u2 al56 244 ((60 * i1) + x10).toNat ((al56 244 (((60 * i1) + x10) - 1).toNat)) ∧ tm sc ai z az v0 v63 := ⟨_, rfl, tm_pl hM57 rfl b61 h62⟩
          refine w_iinc (A1 := [some (.ref 238), some (.int (vz i1)), some (.int (vz (60 * i1))), some (.int (vz x3)), some (.long y4), none, some (.long y6), none, some (.long y8), none, some (.int (vz (x10 + (-1))))]) e80_114 rfl (by decide) rfl ?_
          refine w_x e80_117 (fun _ => rfl) ?_
          exact w_sub (A1 := [some (.ref 238), some (.int (vz i1)), some (.int (vz (60 * i1))), some (.int (vz x3)), some (.long y4), none, some (.long y6), none, some (.long y8), none, some (.int (vz (x10 + (-1))))]) (And.intro rfl (And.intro rfl (And.intro rfl (And.intro rfl (And.intro rfl (And.intro rfl (And.intro rfl (And.intro rfl trivial)))))))) ((ih.2) v63 al64 x3 y4 y6 y8 (x10 + (-1)) hM65 (by omega) (by omega) (so_sh hA hr9 hPm hsh (by omega) (by omega) ⟨hN1, hN2, hN3⟩ (Int64.lt_iff_toInt_lt.mp (h35.mp (by omega))) (so_x (by omega) (by omega)) (so_x1 (by omega) (by omega)) hd58 hd66) (by omega))
set_option maxRecDepth 100000 in
set_option maxHeartbeats 4000000 in
theorem r80 {sc : Nat → Int} {ai : Nat → Nat → Int} {al : Nat → Nat → Int64} {az : Nat → Nat → Int32} {v0 vh : vm_H} (hM : tm sc ai al az v0 vh) (hK : tmok ai) {i1 : Int} (hi_1 : 0 ≤ i1 ∧ i1 < 72) {nv : Nat} (hv : sc 1 = (nv : Int)) (hV : pmV (vR ai) nv) {l : Po} (hL : qL (vR ai) nv ai al (i1).toNat l) (hgl : ∀ x, x ∈ l → x.1 < 256 ^ nv ∧ x.1 < 2 ^ 63) : vm_Rp 2 47 80 [.ref 238, .int (vz i1)] vh (fun r v1 => (∃ al1 : Nat → Nat → Int64, (slF al al1 (i1).toNat ∧ ∃ l1, l1.Perm l ∧ l1.Pairwise (fun x y => y.1 ≤ x.1) ∧ qL (vR ai) nv ai al1 (i1).toNat l1) ∧ tm sc ai al1 az v0 v1) ∧ r = none) := by
  have hcg := hK.1 (i1).toNat
  have hl1 := hL.1
  refine w_in (m := 9) ?_
  show vm_Wp _ _ _ 0 [some (.ref 238), some (.int (vz i1)), none, none, none, none, none, none, none, none, none] [] _ _
  refine w_kB e80_0 rfl ?_
  refine w_ldI e80_2 (fun _ => rfl) rfl ?_
  refine w_imul e80_3 ?_
  refine w_stI (j := 2) (A1 := [some (.ref 238), some (.int (vz i1)), some (.int (vz (60 * i1))), none, none, none, none, none, none, none, none]) e80_4 (fun _ => rfl) (by decide) rfl ?_
  refine w_kI e80_5 ?_
  refine w_stI (j := 3) (A1 := [some (.ref 238), some (.int (vz i1)), some (.int (vz (60 * i1))), some (.int (vz 1)), none, none, none, none, none, none, none]) e80_6 (fun _ => rfl) (by decide) rfl ?_
  exact w_sub (A1 := [some (.ref 238), some (.int (vz i1)), some (.int (vz (60 * i1))), some (.int (vz 1)), none, none, none, none, none, none, none]) (And.intro rfl (And.intro rfl (And.intro rfl (And.intro rfl trivial)))) (((r80_L (sc := sc) (ai := ai) (al := al) (az := az) (v0 := v0) (i1 := i1) (nv := nv) (l := l) hK hi_1 hv hV hL hgl _).1) vh al 1 hM (by omega) (so_0 hL hgl (by omega)) (Nat.lt_succ_self _))
