set_option maxRecDepth 100000 in
set_option maxHeartbeats 4000000 in
theorem c108_L {sc : Nat → Int} {ai : Nat → Nat → Int} {al : Nat → Nat → Int64} {az : Nat → Nat → Int32} {v0 : vm_H} (hK0 : tmok ai) (hI : gi sc ai al az) {i1 : Int} (hi_1 : -2147483648 ≤ i1 ∧ i1 < 2147483648) {l_2 : Int64} {i3 : Int} (hi_3 : -2147483648 ≤ i3 ∧ i3 < 2147483648) (hR : ri2 sc ai al az) : ∀ N : Nat, (∀ (vh : vm_H) (sc_ : Nat → Int) (y5 : Int64) (x7 : Int), (tm sc_ ai al az v0 vh) → (tmok ai) → (gi sc_ ai al az) → (fr [0, 10, 11, 12, 18] [] (i1).toNat (i1).toNat sc ai al az sc_ ai al az) → (0 ≤ x7 ∧ x7 ≤ 8) → (ri2 sc_ ai al az) → ((sc_ 1 = sc 1 ∧ sc_ 4 = sc 4) ∧ (0 ≤ i1 ∧ i1 < sc 4)) → ((2000 + 8 - x7 : Int).toNat < N) → vm_Wp 3 77 108 21 [some (.ref 238), some (.int (vz i1)), some (.long l_2), none, some (.int (vz i3)), some (.long y5), none, some (.int (vz x7)), none, none, none, none, none] [] vh (vq_P 108 (fun r v1 => (∃ (sc1 : Nat → Int) (ai1 : Nat → Nat → Int) (al1 : Nat → Nat → Int64) (az1 : Nat → Nat → Int32), tm sc1 ai1 al1 az1 v0 v1 ∧ tmok ai1 ∧ gi sc1 ai1 al1 az1 ∧ fr [0, 10, 11, 12, 18] [] (i1).toNat (i1).toNat sc ai al az sc1 ai1 al1 az1 ∧ (ri2 sc1 ai1 al1 az1)) ∧ ∃ q : Int, ((0 ≤ q ∧ q ≤ 1)) ∧ r = some (.int (vz q))))) ∧ (∀ (vh : vm_H) (sc_ : Nat → Int) (y5 : Int64) (x7 : Int) (x8 : Int), (tm sc_ ai al az v0 vh) → (tmok ai) → (gi sc_ ai al az) → (fr [0, 10, 11, 12, 18] [] (i1).toNat (i1).toNat sc ai al az sc_ ai al az) → (x7 = 60 * i1) → (0 ≤ x8 ∧ x8 ≤ ai 242 (i1).toNat) → (ri2 sc_ ai al az) → ((sc_ 1 = sc 1 ∧ sc_ 4 = sc 4) ∧ (0 ≤ i1 ∧ i1 < sc 4)) → ((1000 + 60 - x8 : Int).toNat < N) → vm_Wp 3 77 108 85 [some (.ref 238), some (.int (vz i1)), some (.long l_2), none, some (.int (vz i3)), some (.long y5), none, some (.int (vz x7)), some (.int (vz x8)), none, none, none, none] [] vh (vq_P 108 (fun r v1 => (∃ (sc1 : Nat → Int) (ai1 : Nat → Nat → Int) (al1 : Nat → Nat → Int64) (az1 : Nat → Nat → Int32), tm sc1 ai1 al1 az1 v0 v1 ∧ tmok ai1 ∧ gi sc1 ai1 al1 az1 ∧ fr [0, 10, 11, 12, 18] [] (i1).toNat (i1).toNat sc ai al az sc1 ai1 al1 az1 ∧ (ri2 sc1 ai1 al1 az1)) ∧ ∃ q : Int, ((0 ≤ q ∧ q ≤ 1)) ∧ r = some (.int (vz q))))) ∧ (∀ (vh : vm_H) (sc_ : Nat → Int) (y5 : Int64) (x7 : Int) (x8 : Int) (x9 : Int) (y10 : Int64), (tm sc_ ai al az v0 vh) → (tmok ai) → (gi sc_ ai al az) → (fr [0, 10, 11, 12, 18] [] (i1).toNat (i1).toNat sc ai al az sc_ ai al az) → (x7 = 60 * i1) → (0 ≤ x8 ∧ x8 ≤ ai 242 (i1).toNat) → ((x9 = 1 ∧ x8 < ai 242 (i1).toNat) ∨ (x9 = 0 ∧ x8 = ai 242 (i1).toNat)) → (ri2 sc_ ai al az) → ((sc_ 1 = sc 1 ∧ sc_ 4 = sc 4) ∧ (0 ≤ i1 ∧ i1 < sc 4)) → (-67108864 ≤ y10.toInt ∧ y10.toInt ≤ 67108864 ∧ (x9 = 0 → y10.toInt = 0)) → ((900 : Int).toNat < N) → vm_Wp 3 77 108 157 [some (.ref 238), some (.int (vz i1)), some (.long l_2), none, some (.int (vz i3)), some (.long y5), none, some (.int (vz x7)), some (.int (vz x8)), some (.int (vz x9)), some (.long y10), none, none] [] vh (vq_P 108 (fun r v1 => (∃ (sc1 : Nat → Int) (ai1 : Nat → Nat → Int) (al1 : Nat → Nat → Int64) (az1 : Nat → Nat → Int32), tm sc1 ai1 al1 az1 v0 v1 ∧ tmok ai1 ∧ gi sc1 ai1 al1 az1 ∧ fr [0, 10, 11, 12, 18] [] (i1).toNat (i1).toNat sc ai al az sc1 ai1 al1 az1 ∧ (ri2 sc1 ai1 al1 az1)) ∧ ∃ q : Int, ((0 ≤ q ∧ q ≤ 1)) ∧ r = some (.int (vz q))))) ∧ (∀ (vh : vm_H) (sc_ : Nat → Int) (y5 : Int64) (x7 : Int) (x8 : Int) (x9 : Int) (y10 : Int64), (tm sc_ ai al az v0 vh) → (tmok ai) → (gi sc_ ai al az) → (fr [0, 10, 11, 12, 18] [] (i1).toNat (i1).toNat sc ai al az sc_ ai al az) → (x7 = 60 * i1) → (0 ≤ x8 ∧ x8 ≤ ai 242 (i1).toNat) → ((x9 = 1 ∧ x8 < ai 242 (i1).toNat) ∨ (x9 = 0 ∧ x8 = ai 242 (i1).toNat)) → (ri2 sc_ ai al az) → ((sc_ 1 = sc 1 ∧ sc_ 4 = sc 4) ∧ (0 ≤ i1 ∧ i1 < sc 4)) → (-67108864 ≤ y10.toInt ∧ y10.toInt ≤ 67108864 ∧ (x9 = 0 → y10.toInt = 0)) → (-134217728 ≤ l_2.toInt ∧ l_2.toInt ≤ 134217728 ∧ -67108864 ≤ y10.toInt + l_2.toInt ∧ y10.toInt + l_2.toInt ≤ 67108864) → (x9 = 1 ∨ l_2.toInt = 0 ∨ x8 ≠ 60) → ((800 : Int).toNat < N) → vm_Wp 3 77 108 215 [some (.ref 238), some (.int (vz i1)), some (.long l_2), none, some (.int (vz i3)), some (.long y5), none, some (.int (vz x7)), some (.int (vz x8)), some (.int (vz x9)), some (.long y10), none, none] [] vh (vq_P 108 (fun r v1 => (∃ (sc1 : Nat → Int) (ai1 : Nat → Nat → Int) (al1 : Nat → Nat → Int64) (az1 : Nat → Nat → Int32), tm sc1 ai1 al1 az1 v0 v1 ∧ tmok ai1 ∧ gi sc1 ai1 al1 az1 ∧ fr [0, 10, 11, 12, 18] [] (i1).toNat (i1).toNat sc ai al az sc1 ai1 al1 az1 ∧ (ri2 sc1 ai1 al1 az1)) ∧ ∃ q : Int, ((0 ≤ q ∧ q ≤ 1)) ∧ r = some (.int (vz q))))) ∧ (∀ (vh : vm_H) (sc_ : Nat → Int) (y5 : Int64) (x7 : Int) (x8 : Int) (x9 : Int) (y10 : Int64), (tm sc_ ai al az v0 vh) → (tmok ai) → (gi sc_ ai al az) → (fr [0, 10, 11, 12, 18] [] (i1).toNat (i1).toNat sc ai al az sc_ ai al az) → (x7 = 60 * i1) → (0 ≤ x8 ∧ x8 ≤ ai 242 (i1).toNat) → ((x9 = 1 ∧ x8 < ai 242 (i1).toNat) ∨ (x9 = 0 ∧ x8 = ai 242 (i1).toNat)) → (ri2 sc_ ai al az) → ((sc_ 1 = sc 1 ∧ sc_ 4 = sc 4) ∧ (0 ≤ i1 ∧ i1 < sc 4)) → (-67108864 ≤ y10.toInt ∧ y10.toInt ≤ 67108864 ∧ (x9 = 0 → y10.toInt = 0)) → (-134217728 ≤ l_2.toInt ∧ l_2.toInt ≤ 134217728 ∧ -67108864 ≤ y10.toInt + l_2.toInt ∧ y10.toInt + l_2.toInt ≤ 67108864) → ((x9 = 1 ∨ x8 ≠ 60) ∧ l_2.toInt ≠ 0) → ((700 : Int).toNat < N) → vm_Wp 3 77 108 236 [some (.ref 238), some (.int (vz i1)), some (.long l_2), none, some (.int (vz i3)), some (.long y5), none, some (.int (vz x7)), some (.int (vz x8)), some (.int (vz x9)), some (.long y10), none, none] [] vh (vq_P 108 (fun r v1 => (∃ (sc1 : Nat → Int) (ai1 : Nat → Nat → Int) (al1 : Nat → Nat → Int64) (az1 : Nat → Nat → Int32), tm sc1 ai1 al1 az1 v0 v1 ∧ tmok ai1 ∧ gi sc1 ai1 al1 az1 ∧ fr [0, 10, 11, 12, 18] [] (i1).toNat (i1).toNat sc ai al az sc1 ai1 al1 az1 ∧ (ri2 sc1 ai1 al1 az1)) ∧ ∃ q : Int, ((0 ≤ q ∧ q ≤ 1)) ∧ r = some (.int (vz q))))) ∧ (∀ (vh : vm_H) (sc_ : Nat → Int) (al_ : Nat → Nat → Int64) (x7 : Int) (x12 : Int), (tm sc_ ai al_ az v0 vh) → (tmok ai) → (fr [0, 10, 11, 12, 18] [] (i1).toNat (i1).toNat sc ai al az sc_ ai al_ az) → (x7 = 60 * i1) → (0 ≤ x12 ∧ x12 < ai 242 (i1).toNat) → (ri2 sc_ ai al_ az) → (sg al_ (60 * i1).toNat (ai 242 (i1).toNat)) → ((sc_ 1 = sc 1 ∧ sc_ 4 = sc 4) ∧ (0 ≤ i1 ∧ i1 < sc 4)) → ((60 - x12 : Int).toNat < N) → vm_Wp 3 77 108 290 [some (.ref 238), some (.int (vz i1)), some (.long l_2), none, some (.int (vz i3)), none, none, some (.int (vz x7)), none, none, none, none, some (.int (vz x12))] [] vh (vq_P 108 (fun r v1 => (∃ (sc1 : Nat → Int) (ai1 : Nat → Nat → Int) (al1 : Nat → Nat → Int64) (az1 : Nat → Nat → Int32), tm sc1 ai1 al1 az1 v0 v1 ∧ tmok ai1 ∧ gi sc1 ai1 al1 az1 ∧ fr [0, 10, 11, 12, 18] [] (i1).toNat (i1).toNat sc ai al az sc1 ai1 al1 az1 ∧ (ri2 sc1 ai1 al1 az1)) ∧ ∃ q : Int, ((0 ≤ q ∧ q ≤ 1)) ∧ r = some (.int (vz q))))) := by
  have hF0 : fr [0, 10, 11, 12, 18] [] (i1).toNat (i1).toNat sc ai al az sc ai al az := fr_0 _ _ _ _ _ _ _ _
  intro N
  induction N with
  | zero => exact ⟨by intros; omega, by intros; omega, by intros; omega, by intros; omega, by intros; omega, by intros; omega⟩
  | succ N ih =>
    refine ⟨?_, ?_, ?_, ?_, ?_, ?_⟩
    ·
      intro vh sc_ y5 x7 hM hK hJ hF hx7 hi0 hi1 hN
      have hn8 := hJ.1.1
      have hcg := hK.1 (i1).toNat
      refine w_ldI e108_21 (fun _ => rfl) rfl ?_
      refine w_kB e108_23 rfl ?_
      refine w_ic e108_25 (by omega) (by omega) (fun (h25 : 8 ≤ x7) => ?_) (fun (h25 : x7 < 8) => ?_)
      ·
        refine w_kB e108_76 rfl ?_
        refine w_ldI e108_78 (fun _ => rfl) rfl ?_
        refine w_imul e108_79 ?_
        refine w_stI (j := 7) (A1 := [some (.ref 238), some (.int (vz i1)), some (.long l_2), none, some (.int (vz i3)), some (.long y5), none, some (.int (vz (60 * i1))), none, none, none, none, none]) e108_80 (fun _ => rfl) (by decide) rfl ?_
        refine w_kI e108_82 ?_
        refine w_stI (j := 8) (A1 := [some (.ref 238), some (.int (vz i1)), some (.long l_2), none, some (.int (vz i3)), some (.long y5), none, some (.int (vz (60 * i1))), some (.int (vz 0)), none, none, none, none]) e108_83 (fun _ => rfl) (by decide) rfl ?_
        exact w_sub (A1 := [some (.ref 238), some (.int (vz i1)), some (.long l_2), none, some (.int (vz i3)), some (.long y5), none, some (.int (vz (60 * i1))), some (.int (vz 0)), none, none, none, none]) (And.intro rfl (And.intro rfl (And.intro rfl (And.intro rfl (And.intro rfl (And.intro rfl (And.intro rfl trivial))))))) ((ih.2.1) vh sc_ y5 (60 * i1) 0 hM hK hJ hF (by omega) (by omega) hi0 (by omega) (by omega))
      ·
        refine w_ldI e108_28 (fun _ => rfl) rfl ?_
        refine w_kI e108_30 ?_
        refine w_ldI e108_31 (fun _ => rfl) rfl ?_
        refine w_imul e108_33 ?_
        refine w_oI e108_34 (fun _ => rfl) (fun q26 h27 => ?_)
        refine w_kB e108_35 rfl ?_
        refine w_iand e108_37 h27 (by omega) (fun q28 (h29 : 0 ≤ q28 ∧ q28 ≤ 15) => ?_)
        refine w_stI (j := 8) (A1 := [some (.ref 238), some (.int (vz i1)), some (.long l_2), none, some (.int (vz i3)), some (.long y5), none, some (.int (vz x7)), some (.int (vz q28)), none, none, none, none]) e108_38 (fun _ => rfl) (by decide) rfl ?_
        refine w_ldI e108_40 (fun _ => rfl) rfl ?_
        refine w_if e108_42 (by omega) (fun (h30 : q28 ≤ 0) => ?_) (fun (h30 : 0 < q28) => ?_)
        ·
          refine w_ldL e108_56 (fun _ => rfl) rfl ?_
          refine w_ldI e108_58 (fun _ => rfl) rfl ?_
          refine w_oL e108_60 (fun _ => rfl) (fun l31 => ?_)
          refine w_kB e108_61 rfl ?_
          refine w_ldI e108_63 (fun _ => rfl) rfl ?_
          refine w_imul e108_65 ?_
          refine w_oL e108_66 (fun _ => rfl) (fun l32 => ?_)
          refine w_oL e108_67 (fun _ => rfl) (fun l33 => ?_)
          refine w_stL (j := 5) (A1 := [some (.ref 238), some (.int (vz i1)), some (.long l_2), none, some (.int (vz i3)), some (.long l33), none, some (.int (vz x7)), some (.int (vz q28)), none, none, none, none]) e108_68 (fun _ => rfl) (by decide) rfl ?_
          refine w_iinc (A1 := [some (.ref 238), some (.int (vz i1)), some (.long l_2), none, some (.int (vz i3)), some (.long l33), none, some (.int (vz (x7 + 1))), some (.int (vz q28)), none, none, none, none]) e108_70 rfl (by decide) rfl ?_
          refine w_x e108_73 (fun _ => rfl) ?_
          exact w_sub (A1 := [some (.ref 238), some (.int (vz i1)), some (.long l_2), none, some (.int (vz i3)), some (.long l33), none, some (.int (vz (x7 + 1))), none, none, none, none, none]) (And.intro rfl (And.intro rfl (And.intro rfl (And.intro rfl (And.intro rfl (And.intro rfl trivial)))))) ((ih.1) vh sc_ l33 (x7 + 1) hM hK hJ hF (by omega) hi0 (by omega) (by omega))
        ·
          refine w_ldI e108_45 (fun _ => rfl) rfl ?_
          refine w_ldA e108_47 (fun _ => rfl) rfl ?_
          have e34 := tm_o hM
          refine w_get e108_48 e34 rfl ?_
          refine w_ic e108_51 (by omega) (tm_s hM 1) (fun (h35 : x7 < sc_ 1) => ?_) (fun (h35 : sc_ 1 ≤ x7) => ?_)
          ·
            refine w_ldL e108_56 (fun _ => rfl) rfl ?_
            refine w_ldI e108_58 (fun _ => rfl) rfl ?_
            refine w_oL e108_60 (fun _ => rfl) (fun l36 => ?_)
            refine w_kB e108_61 rfl ?_
            refine w_ldI e108_63 (fun _ => rfl) rfl ?_
            refine w_imul e108_65 ?_
            refine w_oL e108_66 (fun _ => rfl) (fun l37 => ?_)
            refine w_oL e108_67 (fun _ => rfl) (fun l38 => ?_)
            refine w_stL (j := 5) (A1 := [some (.ref 238), some (.int (vz i1)), some (.long l_2), none, some (.int (vz i3)), some (.long l38), none, some (.int (vz x7)), some (.int (vz q28)), none, none, none, none]) e108_68 (fun _ => rfl) (by decide) rfl ?_
            refine w_iinc (A1 := [some (.ref 238), some (.int (vz i1)), some (.long l_2), none, some (.int (vz i3)), some (.long l38), none, some (.int (vz (x7 + 1))), some (.int (vz q28)), none, none, none, none]) e108_70 rfl (by decide) rfl ?_
            refine w_x e108_73 (fun _ => rfl) ?_
            exact w_sub (A1 := [some (.ref 238), some (.int (vz i1)), some (.long l_2), none, some (.int (vz i3)), some (.long l38), none, some (.int (vz (x7 + 1))), none, none, none, none, none]) (And.intro rfl (And.intro rfl (And.intro rfl (And.intro rfl (And.intro rfl (And.intro rfl trivial)))))) ((ih.1) vh sc_ l38 (x7 + 1) hM hK hJ hF (by omega) hi0 (by omega) (by omega))
          ·
            refine w_kI e108_54 ?_
            exact w_rz e108_55 rfl (by omega) ⟨⟨sc_, ai, al, az, hM, hK, hJ, hF, hi0⟩, 0, (by omega), rfl⟩
    ·
      intro vh sc_ y5 x7 x8 hM hK hJ hF hx7 hx8 hi0 hi1 hN
      have hn8 := hJ.1.1
      have hz0 : (Int64.ofNat 0).toInt = 0 := rfl
      have hcg := hK.1 (i1).toNat
      refine w_ldI e108_85 (fun _ => rfl) rfl ?_
      refine w_ldA e108_87 (fun _ => rfl) rfl ?_
      have e39 := tm_o hM
      refine w_get e108_88 e39 rfl ?_
      refine w_ldI e108_91 (fun _ => rfl) rfl ?_
      have e40 := tm_i hM (a := 242) (n := 72) rfl
      refine w_ald e108_92 e40 (by omega) (by omega) (by decide) ?_
      show vm_Wp _ _ _ 93 _ [.int (vz (ai 242 (i1).toNat)), .int (vz x8)] _ _
      have hk41 := hK.1 (i1).toNat
      refine w_ic e108_93 (by omega) (tm_r hM 242 (i1).toNat) (fun (h42 : ai 242 (i1).toNat ≤ x8) => ?_) (fun (h42 : x8 < ai 242 (i1).toNat) => ?_)
      ·
        refine w_ldI e108_118 (fun _ => rfl) rfl ?_
        refine w_ldA e108_120 (fun _ => rfl) rfl ?_
        refine w_get e108_121 e39 rfl ?_
        refine w_ldI e108_124 (fun _ => rfl) rfl ?_
        refine w_ald e108_125 e40 (by omega) (by omega) (by decide) ?_
        show vm_Wp _ _ _ 126 _ [.int (vz (ai 242 (i1).toNat)), .int (vz x8)] _ _
        have hk43 := hK.1 (i1).toNat
        refine w_ic e108_126 (by omega) (tm_r hM 242 (i1).toNat) (fun (h44 : ai 242 (i1).toNat ≤ x8) => ?_) (fun (h44 : x8 < ai 242 (i1).toNat) => ?_)
        ·
          refine w_kI e108_133 ?_
          refine w_stI (j := 9) (A1 := [some (.ref 238), some (.int (vz i1)), some (.long l_2), none, some (.int (vz i3)), some (.long y5), none, some (.int (vz x7)), some (.int (vz x8)), some (.int (vz 0)), none, none, none]) e108_134 (fun _ => rfl) (by decide) rfl ?_
          refine w_ldI e108_136 (fun _ => rfl) rfl ?_
          refine w_if e108_138 (by omega) (fun (h45 : 0 = 0) => ?_) (fun (h45 : 0 ≠ 0) => ?_)
          ·
            refine w_x e108_154 (fun _ => rfl) ?_
            refine w_stL (j := 10) (A1 := [some (.ref 238), some (.int (vz i1)), some (.long l_2), none, some (.int (vz i3)), some (.long y5), none, some (.int (vz x7)), some (.int (vz x8)), some (.int (vz 0)), some (.long ((Int64.ofNat 0))), none, none]) e108_155 (fun _ => rfl) (by decide) rfl ?_
            exact w_sub (A1 := [some (.ref 238), some (.int (vz i1)), some (.long l_2), none, some (.int (vz i3)), some (.long y5), none, some (.int (vz x7)), some (.int (vz x8)), some (.int (vz 0)), some (.long ((Int64.ofNat 0))), none, none]) (And.intro rfl (And.intro rfl (And.intro rfl (And.intro rfl (And.intro rfl (And.intro rfl (And.intro rfl (And.intro rfl (And.intro rfl trivial))))))))) ((ih.2.2.1) vh sc_ y5 x7 x8 0 ((Int64.ofNat 0)) hM hK hJ hF (by omega) (by omega) (by omega) hi0 (by omega) (by omega) (by omega))
          ·
            refine w_ldA e108_141 (fun _ => rfl) rfl ?_
            refine w_get e108_142 e39 rfl ?_
            refine w_ldI e108_145 (fun _ => rfl) rfl ?_
            refine w_ldI e108_147 (fun _ => rfl) rfl ?_
            refine w_iadd e108_149 ?_
            have e46 := tm_l hM (a := 243) (n := 4320) rfl
            refine w_lld e108_150 e46 (by omega) (by omega) (by decide) ?_
            have hg47 := gd_at2 hJ.1.2 (by omega) hx7 (t := x8) (by omega)
            have ha48 := hg47.1
            have ha49 := hg47.2
            refine w_x e108_151 (fun _ => rfl) ?_
            refine w_stL (j := 10) (A1 := [some (.ref 238), some (.int (vz i1)), some (.long l_2), none, some (.int (vz i3)), some (.long y5), none, some (.int (vz x7)), some (.int (vz x8)), some (.int (vz 0)), some (.long ((al 243 (x7 + x8).toNat))), none, none]) e108_155 (fun _ => rfl) (by decide) rfl ?_
            exact w_sub (A1 := [some (.ref 238), some (.int (vz i1)), some (.long l_2), none, some (.int (vz i3)), some (.long y5), none, some (.int (vz x7)), some (.int (vz x8)), some (.int (vz 0)), some (.long ((al 243 (x7 + x8).toNat))), none, none]) (And.intro rfl (And.intro rfl (And.intro rfl (And.intro rfl (And.intro rfl (And.intro rfl (And.intro rfl (And.intro rfl (And.intro rfl trivial))))))))) ((ih.2.2.1) vh sc_ y5 x7 x8 0 ((al 243 (x7 + x8).toNat)) hM hK hJ hF (by omega) (by omega) (by omega) hi0 (by omega) (by omega) (by omega))
        ·
          refine w_kI e108_129 ?_
          refine w_x e108_130 (fun _ => rfl) ?_
          refine w_stI (j := 9) (A1 := [some (.ref 238), some (.int (vz i1)), some (.long l_2), none, some (.int (vz i3)), some (.long y5), none, some (.int (vz x7)), some (.int (vz x8)), some (.int (vz 1)), none, none, none]) e108_134 (fun _ => rfl) (by decide) rfl ?_
          refine w_ldI e108_136 (fun _ => rfl) rfl ?_
          refine w_if e108_138 (by omega) (fun (h50 : 1 = 0) => ?_) (fun (h50 : 1 ≠ 0) => ?_)
          ·
            refine w_x e108_154 (fun _ => rfl) ?_
            refine w_stL (j := 10) (A1 := [some (.ref 238), some (.int (vz i1)), some (.long l_2), none, some (.int (vz i3)), some (.long y5), none, some (.int (vz x7)), some (.int (vz x8)), some (.int (vz 1)), some (.long ((Int64.ofNat 0))), none, none]) e108_155 (fun _ => rfl) (by decide) rfl ?_
            exact w_sub (A1 := [some (.ref 238), some (.int (vz i1)), some (.long l_2), none, some (.int (vz i3)), some (.long y5), none, some (.int (vz x7)), some (.int (vz x8)), some (.int (vz 1)), some (.long ((Int64.ofNat 0))), none, none]) (And.intro rfl (And.intro rfl (And.intro rfl (And.intro rfl (And.intro rfl (And.intro rfl (And.intro rfl (And.intro rfl (And.intro rfl trivial))))))))) ((ih.2.2.1) vh sc_ y5 x7 x8 1 ((Int64.ofNat 0)) hM hK hJ hF (by omega) (by omega) (by omega) hi0 (by omega) (by omega) (by omega))
          ·
            refine w_ldA e108_141 (fun _ => rfl) rfl ?_
            refine w_get e108_142 e39 rfl ?_
            refine w_ldI e108_145 (fun _ => rfl) rfl ?_
            refine w_ldI e108_147 (fun _ => rfl) rfl ?_
            refine w_iadd e108_149 ?_
            have e51 := tm_l hM (a := 243) (n := 4320) rfl
            refine w_lld e108_150 e51 (by omega) (by omega) (by decide) ?_
            have hg52 := gd_at2 hJ.1.2 (by omega) hx7 (t := x8) (by omega)
            have ha53 := hg52.1
            have ha54 := hg52.2
            refine w_x e108_151 (fun _ => rfl) ?_
            refine w_stL (j := 10) (A1 := [some (.ref 238), some (.int (vz i1)), some (.long l_2), none, some (.int (vz i3)), some (.long y5), none, some (.int (vz x7)), some (.int (vz x8)), some (.int (vz 1)), some (.long ((al 243 (x7 + x8).toNat))), none, none]) e108_155 (fun _ => rfl) (by decide) rfl ?_
            exact w_sub (A1 := [some (.ref 238), some (.int (vz i1)), some (.long l_2), none, some (.int (vz i3)), some (.long y5), none, some (.int (vz x7)), some (.int (vz x8)), some (.int (vz 1)), some (.long ((al 243 (x7 + x8).toNat))), none, none]) (And.intro rfl (And.intro rfl (And.intro rfl (And.intro rfl (And.intro rfl (And.intro rfl (And.intro rfl (And.intro rfl (And.intro rfl trivial))))))))) ((ih.2.2.1) vh sc_ y5 x7 x8 1 ((al 243 (x7 + x8).toNat)) hM hK hJ hF (by omega) (by omega) (by omega) hi0 (by omega) (by omega) (by omega))
      ·
        refine w_ldA e108_96 (fun _ => rfl) rfl ?_
        refine w_get e108_97 e39 rfl ?_
        refine w_ldI e108_100 (fun _ => rfl) rfl ?_
        refine w_ldI e108_102 (fun _ => rfl) rfl ?_
        refine w_iadd e108_104 ?_
        have e55 := tm_l hM (a := 244) (n := 4320) rfl
        refine w_lld e108_105 e55 (by omega) (by omega) (by decide) ?_
        refine w_ldL e108_106 (fun _ => rfl) rfl ?_
        refine w_lcmp e108_108 (fun q56 (h57 : -1 ≤ q56 ∧ q56 ≤ 1) h58 h59 => ?_)
        have hc60 : (q56 = 0 ↔ ((al 244 (x7 + x8).toNat)).toInt = y5.toInt) ∧ (q56 < 0 ↔ ((al 244 (x7 + x8).toNat)).toInt < y5.toInt) := lc_i h58 h59
        refine w_if e108_109 (by omega) (fun (h61 : q56 = 0) => ?_) (fun (h61 : q56 ≠ 0) => ?_)
        ·
          refine w_ldI e108_118 (fun _ => rfl) rfl ?_
          refine w_ldA e108_120 (fun _ => rfl) rfl ?_
          refine w_get e108_121 e39 rfl ?_
          refine w_ldI e108_124 (fun _ => rfl) rfl ?_
          refine w_ald e108_125 e40 (by omega) (by omega) (by decide) ?_
          show vm_Wp _ _ _ 126 _ [.int (vz (ai 242 (i1).toNat)), .int (vz x8)] _ _
          have hk62 := hK.1 (i1).toNat
          refine w_ic e108_126 (by omega) (tm_r hM 242 (i1).toNat) (fun (h63 : ai 242 (i1).toNat ≤ x8) => ?_) (fun (h63 : x8 < ai 242 (i1).toNat) => ?_)
          ·
            refine w_kI e108_133 ?_
            refine w_stI (j := 9) (A1 := [some (.ref 238), some (.int (vz i1)), some (.long l_2), none, some (.int (vz i3)), some (.long y5), none, some (.int (vz x7)), some (.int (vz x8)), some (.int (vz 0)), none, none, none]) e108_134 (fun _ => rfl) (by decide) rfl ?_
            refine w_ldI e108_136 (fun _ => rfl) rfl ?_
            refine w_if e108_138 (by omega) (fun (h64 : 0 = 0) => ?_) (fun (h64 : 0 ≠ 0) => ?_)
            ·
              refine w_x e108_154 (fun _ => rfl) ?_
              refine w_stL (j := 10) (A1 := [some (.ref 238), some (.int (vz i1)), some (.long l_2), none, some (.int (vz i3)), some (.long y5), none, some (.int (vz x7)), some (.int (vz x8)), some (.int (vz 0)), some (.long ((Int64.ofNat 0))), none, none]) e108_155 (fun _ => rfl) (by decide) rfl ?_
              exact w_sub (A1 := [some (.ref 238), some (.int (vz i1)), some (.long l_2), none, some (.int (vz i3)), some (.long y5), none, some (.int (vz x7)), some (.int (vz x8)), some (.int (vz 0)), some (.long ((Int64.ofNat 0))), none, none]) (And.intro rfl (And.intro rfl (And.intro rfl (And.intro rfl (And.intro rfl (And.intro rfl (And.intro rfl (And.intro rfl (And.intro rfl trivial))))))))) ((ih.2.2.1) vh sc_ y5 x7 x8 0 ((Int64.ofNat 0)) hM hK hJ hF (by omega) (by omega) (by omega) hi0 (by omega) (by omega) (by omega))
            ·
              refine w_ldA e108_141 (fun _ => rfl) rfl ?_
              refine w_get e108_142 e39 rfl ?_
              refine w_ldI e108_145 (fun _ => rfl) rfl ?_
              refine w_ldI e108_147 (fun _ => rfl) rfl ?_
              refine w_iadd e108_149 ?_
              have e65 := tm_l hM (a := 243) (n := 4320) rfl
              refine w_lld e108_150 e65 (by omega) (by omega) (by decide) ?_
              have hg66 := gd_at2 hJ.1.2 (by omega) hx7 (t := x8) (by omega)
              have ha67 := hg66.1
              have ha68 := hg66.2
              refine w_x e108_151 (fun _ => rfl) ?_
              refine w_stL (j := 10) (A1 := [some (.ref 238), some (.int (vz i1)), some (.long l_2), none, some (.int (vz i3)), some (.long y5), none, some (.int (vz x7)), some (.int (vz x8)), some (.int (vz 0)), some (.long ((al 243 (x7 + x8).toNat))), none, none]) e108_155 (fun _ => rfl) (by decide) rfl ?_
              exact w_sub (A1 := [some (.ref 238), some (.int (vz i1)), some (.long l_2), none, some (.int (vz i3)), some (.long y5), none, some (.int (vz x7)), some (.int (vz x8)), some (.int (vz 0)), some (.long ((al 243 (x7 + x8).toNat))), none, none]) (And.intro rfl (And.intro rfl (And.intro rfl (And.intro rfl (And.intro rfl (And.intro rfl (And.intro rfl (And.intro rfl (And.intro rfl trivial))))))))) ((ih.2.2.1) vh sc_ y5 x7 x8 0 ((al 243 (x7 + x8).toNat)) hM hK hJ hF (by omega) (by omega) (by omega) hi0 (by omega) (by omega) (by omega))
          ·
            refine w_kI e108_129 ?_
            refine w_x e108_130 (fun _ => rfl) ?_
            refine w_stI (j := 9) (A1 := [some (.ref 238), some (.int (vz i1)), some (.long l_2), none, some (.int (vz i3)), some (.long y5), none, some (.int (vz x7)), some (.int (vz x8)), some (.int (vz 1)), none, none, none]) e108_134 (fun _ => rfl) (by decide) rfl ?_
            refine w_ldI e108_136 (fun _ => rfl) rfl ?_
            refine w_if e108_138 (by omega) (fun (h69 : 1 = 0) => ?_) (fun (h69 : 1 ≠ 0) => ?_)
            ·
              refine w_x e108_154 (fun _ => rfl) ?_
              refine w_stL (j := 10) (A1 := [some (.ref 238), some (.int (vz i1)), some (.long l_2), none, some (.int (vz i3)), some (.long y5), none, some (.int (vz x7)), some (.int (vz x8)), some (.int (vz 1)), some (.long ((Int64.ofNat 0))), none, none]) e108_155 (fun _ => rfl) (by decide) rfl ?_
              exact w_sub (A1 := [some (.ref 238), some (.int (vz i1)), some (.long l_2), none, some (.int (vz i3)), some (.long y5), none, some (.int (vz x7)), some (.int (vz x8)), some (.int (vz 1)), some (.long ((Int64.ofNat 0))), none, none]) (And.intro rfl (And.intro rfl (And.intro rfl (And.intro rfl (And.intro rfl (And.intro rfl (And.intro rfl (And.intro rfl (And.intro rfl trivial))))))))) ((ih.2.2.1) vh sc_ y5 x7 x8 1 ((Int64.ofNat 0)) hM hK hJ hF (by omega) (by omega) (by omega) hi0 (by omega) (by omega) (by omega))
            ·
              refine w_ldA e108_141 (fun _ => rfl) rfl ?_
              refine w_get e108_142 e39 rfl ?_
              refine w_ldI e108_145 (fun _ => rfl) rfl ?_
              refine w_ldI e108_147 (fun _ => rfl) rfl ?_
              refine w_iadd e108_149 ?_
              have e70 := tm_l hM (a := 243) (n := 4320) rfl
              refine w_lld e108_150 e70 (by omega) (by omega) (by decide) ?_
              have hg71 := gd_at2 hJ.1.2 (by omega) hx7 (t := x8) (by omega)
              have ha72 := hg71.1
              have ha73 := hg71.2
              refine w_x e108_151 (fun _ => rfl) ?_
              refine w_stL (j := 10) (A1 := [some (.ref 238), some (.int (vz i1)), some (.long l_2), none, some (.int (vz i3)), some (.long y5), none, some (.int (vz x7)), some (.int (vz x8)), some (.int (vz 1)), some (.long ((al 243 (x7 + x8).toNat))), none, none]) e108_155 (fun _ => rfl) (by decide) rfl ?_
              exact w_sub (A1 := [some (.ref 238), some (.int (vz i1)), some (.long l_2), none, some (.int (vz i3)), some (.long y5), none, some (.int (vz x7)), some (.int (vz x8)), some (.int (vz 1)), some (.long ((al 243 (x7 + x8).toNat))), none, none]) (And.intro rfl (And.intro rfl (And.intro rfl (And.intro rfl (And.intro rfl (And.intro rfl (And.intro rfl (And.intro rfl (And.intro rfl trivial))))))))) ((ih.2.2.1) vh sc_ y5 x7 x8 1 ((al 243 (x7 + x8).toNat)) hM hK hJ hF (by omega) (by omega) (by omega) hi0 (by omega) (by omega) (by omega))
        ·
          refine w_iinc (A1 := [some (.ref 238), some (.int (vz i1)), some (.long l_2), none, some (.int (vz i3)), some (.long y5), none, some (.int (vz x7)), some (.int (vz (x8 + 1))), none, none, none, none]) e108_112 rfl (by decide) rfl ?_
          refine w_x e108_115 (fun _ => rfl) ?_
          exact w_sub (A1 := [some (.ref 238), some (.int (vz i1)), some (.long l_2), none, some (.int (vz i3)), some (.long y5), none, some (.int (vz x7)), some (.int (vz (x8 + 1))), none, none, none, none]) (And.intro rfl (And.intro rfl (And.intro rfl (And.intro rfl (And.intro rfl (And.intro rfl (And.intro rfl trivial))))))) ((ih.2.1) vh sc_ y5 x7 (x8 + 1) hM hK hJ hF (by omega) (by omega) hi0 (by omega) (by omega))
    ·
      intro vh sc_ y5 x7 x8 x9 y10 hM hK hJ hF hx7 hx8 hx9 hi0 hi1 hi2 hN
      have hn8 := hJ.1.1
      have hz0 : (Int64.ofNat 0).toInt = 0 := rfl
      have hcg := hK.1 (i1).toNat
      refine w_ldL e108_157 (fun _ => rfl) rfl ?_
      refine w_x e108_158 (fun _ => rfl) ?_
      refine w_lcmp e108_161 (fun q74 (h75 : -1 ≤ q74 ∧ q74 ≤ 1) h76 h77 => ?_)
      have hc78 : (q74 = 0 ↔ l_2.toInt = ((Int64.ofNat 18446744073575333888)).toInt) ∧ (q74 < 0 ↔ l_2.toInt < ((Int64.ofNat 18446744073575333888)).toInt) := lc_i h76 h77
      have hc79 : (Int64.ofNat 18446744073575333888).toInt = -134217728 := rfl
      refine w_if e108_162 (by omega) (fun (h80 : q74 < 0) => ?_) (fun (h80 : 0 ≤ q74) => ?_)
      ·
        refine w_kI e108_213 ?_
        exact w_rz e108_214 rfl (by omega) ⟨⟨sc_, ai, al, az, hM, hK, hJ, hF, hi0⟩, 0, (by omega), rfl⟩
      ·
        refine w_ldL e108_165 (fun _ => rfl) rfl ?_
        refine w_x e108_166 (fun _ => rfl) ?_
        refine w_lcmp e108_169 (fun q81 (h82 : -1 ≤ q81 ∧ q81 ≤ 1) h83 h84 => ?_)
        have hc85 : (q81 = 0 ↔ l_2.toInt = ((Int64.ofNat 134217728)).toInt) ∧ (q81 < 0 ↔ l_2.toInt < ((Int64.ofNat 134217728)).toInt) := lc_i h83 h84
        have hc86 : (Int64.ofNat 134217728).toInt = 134217728 := rfl
        refine w_if e108_170 (by omega) (fun (h87 : 0 < q81) => ?_) (fun (h87 : q81 ≤ 0) => ?_)
        ·
          refine w_kI e108_213 ?_
          exact w_rz e108_214 rfl (by omega) ⟨⟨sc_, ai, al, az, hM, hK, hJ, hF, hi0⟩, 0, (by omega), rfl⟩
        ·
          refine w_ldL e108_173 (fun _ => rfl) rfl ?_
          refine w_ldL e108_175 (fun _ => rfl) rfl ?_
          refine w_x e108_176 (fun _ => rfl) ?_
          have hl88 := l_add (x := y10) (y := l_2) (by omega) (by omega)
          refine w_x e108_177 (fun _ => rfl) ?_
          refine w_lcmp e108_180 (fun q89 (h90 : -1 ≤ q89 ∧ q89 ≤ 1) h91 h92 => ?_)
          have hc93 : (q89 = 0 ↔ ((y10 + l_2)).toInt = ((Int64.ofNat 18446744073642442752)).toInt) ∧ (q89 < 0 ↔ ((y10 + l_2)).toInt < ((Int64.ofNat 18446744073642442752)).toInt) := lc_i h91 h92
          have hc94 : (Int64.ofNat 18446744073642442752).toInt = -67108864 := rfl
          refine w_if e108_181 (by omega) (fun (h95 : q89 < 0) => ?_) (fun (h95 : 0 ≤ q89) => ?_)
          ·
            refine w_kI e108_213 ?_
            exact w_rz e108_214 rfl (by omega) ⟨⟨sc_, ai, al, az, hM, hK, hJ, hF, hi0⟩, 0, (by omega), rfl⟩
          ·
            refine w_ldL e108_184 (fun _ => rfl) rfl ?_
            refine w_ldL e108_186 (fun _ => rfl) rfl ?_
            refine w_x e108_187 (fun _ => rfl) ?_
            have hl96 := l_add (x := y10) (y := l_2) (by omega) (by omega)
            refine w_x e108_188 (fun _ => rfl) ?_
            refine w_lcmp e108_191 (fun q97 (h98 : -1 ≤ q97 ∧ q97 ≤ 1) h99 h100 => ?_)
            have hc101 : (q97 = 0 ↔ ((y10 + l_2)).toInt = ((Int64.ofNat 67108864)).toInt) ∧ (q97 < 0 ↔ ((y10 + l_2)).toInt < ((Int64.ofNat 67108864)).toInt) := lc_i h99 h100
            have hc102 : (Int64.ofNat 67108864).toInt = 67108864 := rfl
            refine w_if e108_192 (by omega) (fun (h103 : 0 < q97) => ?_) (fun (h103 : q97 ≤ 0) => ?_)
            ·
              refine w_kI e108_213 ?_
              exact w_rz e108_214 rfl (by omega) ⟨⟨sc_, ai, al, az, hM, hK, hJ, hF, hi0⟩, 0, (by omega), rfl⟩
            ·
              refine w_ldI e108_195 (fun _ => rfl) rfl ?_
              refine w_if e108_197 (by omega) (fun (h104 : x9 ≠ 0) => ?_) (fun (h104 : x9 = 0) => ?_)
              ·
                exact w_sub (A1 := [some (.ref 238), some (.int (vz i1)), some (.long l_2), none, some (.int (vz i3)), some (.long y5), none, some (.int (vz x7)), some (.int (vz x8)), some (.int (vz x9)), some (.long y10), none, none]) (And.intro rfl (And.intro rfl (And.intro rfl (And.intro rfl (And.intro rfl (And.intro rfl (And.intro rfl (And.intro rfl (And.intro rfl trivial))))))))) ((ih.2.2.2.1) vh sc_ y5 x7 x8 x9 y10 hM hK hJ hF (by omega) (by omega) (by omega) hi0 (by omega) (by omega) (by omega) (by omega) (by omega))
              ·
                refine w_ldL e108_200 (fun _ => rfl) rfl ?_
                refine w_x e108_201 (fun _ => rfl) ?_
                refine w_lcmp e108_202 (fun q105 (h106 : -1 ≤ q105 ∧ q105 ≤ 1) h107 h108 => ?_)
                have hc109 : (q105 = 0 ↔ l_2.toInt = ((Int64.ofNat 0)).toInt) ∧ (q105 < 0 ↔ l_2.toInt < ((Int64.ofNat 0)).toInt) := lc_i h107 h108
                have hc110 : (Int64.ofNat 0).toInt = 0 := rfl
                refine w_if e108_203 (by omega) (fun (h111 : q105 = 0) => ?_) (fun (h111 : q105 ≠ 0) => ?_)
                ·
                  exact w_sub (A1 := [some (.ref 238), some (.int (vz i1)), some (.long l_2), none, some (.int (vz i3)), some (.long y5), none, some (.int (vz x7)), some (.int (vz x8)), some (.int (vz x9)), some (.long y10), none, none]) (And.intro rfl (And.intro rfl (And.intro rfl (And.intro rfl (And.intro rfl (And.intro rfl (And.intro rfl (And.intro rfl (And.intro rfl trivial))))))))) ((ih.2.2.2.1) vh sc_ y5 x7 x8 x9 y10 hM hK hJ hF (by omega) (by omega) (by omega) hi0 (by omega) (by omega) (by omega) (by omega) (by omega))
                ·
                  refine w_ldI e108_206 (fun _ => rfl) rfl ?_
                  refine w_kB e108_208 rfl ?_
                  refine w_ic e108_210 (by omega) (by omega) (fun (h112 : x8 ≠ 60) => ?_) (fun (h112 : x8 = 60) => ?_)
                  ·
                    exact w_sub (A1 := [some (.ref 238), some (.int (vz i1)), some (.long l_2), none, some (.int (vz i3)), some (.long y5), none, some (.int (vz x7)), some (.int (vz x8)), some (.int (vz x9)), some (.long y10), none, none]) (And.intro rfl (And.intro rfl (And.intro rfl (And.intro rfl (And.intro rfl (And.intro rfl (And.intro rfl (And.intro rfl (And.intro rfl trivial))))))))) ((ih.2.2.2.1) vh sc_ y5 x7 x8 x9 y10 hM hK hJ hF (by omega) (by omega) (by omega) hi0 (by omega) (by omega) (by omega) (by omega) (by omega))
                  ·
                    refine w_kI e108_213 ?_
                    exact w_rz e108_214 rfl (by omega) ⟨⟨sc_, ai, al, az, hM, hK, hJ, hF, hi0⟩, 0, (by omega), rfl⟩
    ·
      intro vh sc_ y5 x7 x8 x9 y10 hM hK hJ hF hx7 hx8 hx9 hi0 hi1 hi2 hi3 hi4 hN
      have hn8 := hJ.1.1
      have hz0 : (Int64.ofNat 0).toInt = 0 := rfl
      have hcg := hK.1 (i1).toNat
      refine w_ldL e108_215 (fun _ => rfl) rfl ?_
      refine w_x e108_216 (fun _ => rfl) ?_
      refine w_lcmp e108_217 (fun q113 (h114 : -1 ≤ q113 ∧ q113 ≤ 1) h115 h116 => ?_)
      have hc117 : (q113 = 0 ↔ l_2.toInt = ((Int64.ofNat 0)).toInt) ∧ (q113 < 0 ↔ l_2.toInt < ((Int64.ofNat 0)).toInt) := lc_i h115 h116
      have hc118 : (Int64.ofNat 0).toInt = 0 := rfl
      refine w_if e108_218 (by omega) (fun (h119 : q113 ≠ 0) => ?_) (fun (h119 : q113 = 0) => ?_)
      ·
        refine w_ldA e108_223 (fun _ => rfl) rfl ?_
        have e120 := tm_o hM
        refine w_get e108_224 e120 rfl ?_
        refine w_ldI e108_227 (fun _ => rfl) rfl ?_
        have e121 := tm_z hM (a := 241) (n := 16) rfl
        refine w_zldO e108_228 e121 (by omega) (by omega) (by decide) (fun q122 h123 h124 => ?_)
        refine w_if e108_229 h123 (fun (h125 : q122 = 0) => ?_) (fun (h125 : q122 ≠ 0) => ?_)
        ·
          exact w_sub (A1 := [some (.ref 238), some (.int (vz i1)), some (.long l_2), none, some (.int (vz i3)), some (.long y5), none, some (.int (vz x7)), some (.int (vz x8)), some (.int (vz x9)), some (.long y10), none, none]) (And.intro rfl (And.intro rfl (And.intro rfl (And.intro rfl (And.intro rfl (And.intro rfl (And.intro rfl (And.intro rfl (And.intro rfl trivial))))))))) ((ih.2.2.2.2.1) vh sc_ y5 x7 x8 x9 y10 hM hK hJ hF (by omega) (by omega) (by omega) hi0 (by omega) (by omega) (by omega) (by omega) (by omega))
        ·
          refine w_ldA e108_232 (fun _ => rfl) rfl ?_
          refine w_cv e108_233 (by decide) rfl e120 rfl (Nat.le_of_ble_eq_true rfl) (Nat.le_of_ble_eq_true rfl) (Nat.le_of_ble_eq_true rfl) (by decide) (by decide) (k101 hM hK hJ) (fun o126 v127 hq128 => ?_)
          obtain ⟨⟨sc129, hM133, hI135, hG136, hE137⟩, rfl⟩ := hq128
          have hs138 : sc129 0 = sc_ 0 := hG136.1 0 rfl
          have hs139 : sc129 1 = sc_ 1 := hG136.1 1 rfl
          have hs140 : sc129 4 = sc_ 4 := hG136.1 4 rfl
          have hs141 : sc129 38 = sc_ 38 := hG136.1 38 rfl
          have hF142 : fr [0, 10, 11, 12, 18] [] (i1).toNat (i1).toNat sc ai al az sc129 ai al az := fr_t hF hG136 rfl rfl (by omega)
          have hS143 := sjk_fr hi0.1 hK hG136 rfl rfl
          have hf144 := hE137.1
          have hf145 := hE137.2
          have hR146 : ri2 sc129 ai al az := ri2_0 hS143 (by omega) (by omega)
          exact w_sub (A1 := [some (.ref 238), some (.int (vz i1)), some (.long l_2), none, some (.int (vz i3)), some (.long y5), none, some (.int (vz x7)), some (.int (vz x8)), some (.int (vz x9)), some (.long y10), none, none]) (And.intro rfl (And.intro rfl (And.intro rfl (And.intro rfl (And.intro rfl (And.intro rfl (And.intro rfl (And.intro rfl (And.intro rfl trivial))))))))) ((ih.2.2.2.2.1) v127 sc129 y5 x7 x8 x9 y10 hM133 hK hI135 hF142 (by omega) (by omega) (by omega) hR146 (by omega) (by omega) (by omega) (by omega) (by omega))
      ·
        refine w_kI e108_221 ?_
        exact w_rz e108_222 rfl (by omega) ⟨⟨sc_, ai, al, az, hM, hK, hJ, hF, hi0⟩, 1, (by omega), rfl⟩
    ·
      intro vh sc_ y5 x7 x8 x9 y10 hM hK hJ hF hx7 hx8 hx9 hi0 hi1 hi2 hi3 hi4 hN
      have hn8 := hJ.1.1
      have hz0 : (Int64.ofNat 0).toInt = 0 := rfl
      have hcg := hK.1 (i1).toNat
      refine w_ldI e108_236 (fun _ => rfl) rfl ?_
      refine w_if e108_238 (by omega) (fun (h147 : x9 ≠ 0) => ?_) (fun (h147 : x9 = 0) => ?_)
      ·
        refine w_ldL e108_277 (fun _ => rfl) rfl ?_
        refine w_ldL e108_279 (fun _ => rfl) rfl ?_
        refine w_x e108_280 (fun _ => rfl) ?_
        have hl148 := l_add (x := y10) (y := l_2) (by omega) (by omega)
        refine w_x e108_281 (fun _ => rfl) ?_
        refine w_lcmp e108_282 (fun q149 (h150 : -1 ≤ q149 ∧ q149 ≤ 1) h151 h152 => ?_)
        have hc153 : (q149 = 0 ↔ ((y10 + l_2)).toInt = ((Int64.ofNat 0)).toInt) ∧ (q149 < 0 ↔ ((y10 + l_2)).toInt < ((Int64.ofNat 0)).toInt) := lc_i h151 h152
        have hc154 : (Int64.ofNat 0).toInt = 0 := rfl
        refine w_if e108_283 (by omega) (fun (h155 : q149 ≠ 0) => ?_) (fun (h155 : q149 = 0) => ?_)
        ·
          refine w_ldA e108_366 (fun _ => rfl) rfl ?_
          have e156 := tm_o hM
          refine w_get e108_367 e156 rfl ?_
          refine w_ldI e108_370 (fun _ => rfl) rfl ?_
          refine w_ldI e108_372 (fun _ => rfl) rfl ?_
          refine w_iadd e108_374 ?_
          refine w_ldL e108_375 (fun _ => rfl) rfl ?_
          refine w_ldL e108_377 (fun _ => rfl) rfl ?_
          refine w_x e108_378 (fun _ => rfl) ?_
          have hl157 := l_add (x := y10) (y := l_2) (by omega) (by omega)
          have e158 := tm_l hM (a := 243) (n := 4320) rfl
          refine w_lst e108_379 e158 (by omega) (by omega) (by decide) (fun v161 b159 h160 => ?_)
          obtain ⟨al162, hd164, hM163⟩ : ∃ z, z = u2 al 243 (x7 + x8).toNat ((y10 + l_2)) ∧ tm sc_ ai z az v0 v161 := ⟨_, rfl, tm_pl hM rfl b159 h160⟩
          have hF165 : fr [0, 10, 11, 12, 18] [] (i1).toNat (i1).toNat sc ai al az sc_ ai al162 az := fr_k hF hd164 (by decide) (by omega)
          have hR166 := ri2_fr hi0 hK (fr_k (X := []) (Y := []) (lo := (i1).toNat) (hi := (i1).toNat) (fr_0 _ _ _ _ sc_ ai al az) hd164 (by decide) (by omega)) rfl rfl rfl rfl rfl rfl rfl rfl rfl (by omega)
          have hS167 := sjk_fr hi0.1 hK (fr_k (X := []) (Y := []) (lo := (i1).toNat) (hi := (i1).toNat) (fr_0 _ _ _ _ sc_ ai al az) hd164 (by decide) (by omega)) rfl rfl
          have hsg168 := sg_w (sg_gd (s := i1) hJ.1.2 (by omega) rfl) (show gl ((y10 + l_2)) from ⟨by omega, by omega, by omega⟩) hd164
          have hI169 : gi sc_ ai al162 az := gi_new hI (s := i1) (by omega) hF165 (hF165.1 1 rfl) (hF165.1 4 rfl) (hF165.1 38 rfl) rfl hK (fun t ht => hsg168 t (by omega))
          refine w_ldA e108_380 (fun _ => rfl) rfl ?_
          refine w_ldI e108_381 (fun _ => rfl) rfl ?_
          have e170 := tm_o hM163
          refine w_cv e108_382 (by decide) rfl e170 rfl (Nat.le_of_ble_eq_true rfl) (Nat.le_of_ble_eq_true rfl) (Nat.le_of_ble_eq_true rfl) (by decide) (by decide) (k80 hM163 hK hI169 (by omega)) (fun o171 v172 hq173 => ?_)
          obtain ⟨⟨sc174, ai175, al176, az177, hM178, hK179, hI180, hG181, hE182⟩, rfl⟩ := hq173
          have hs183 : sc174 0 = sc_ 0 := hG181.1 0 rfl
          have hs184 : sc174 1 = sc_ 1 := hG181.1 1 rfl
          have hs185 : sc174 4 = sc_ 4 := hG181.1 4 rfl
          have hs186 : sc174 11 = sc_ 11 := hG181.1 11 rfl
          have hs187 : sc174 18 = sc_ 18 := hG181.1 18 rfl
          have hs188 : sc174 38 = sc_ 38 := hG181.1 38 rfl
          have hF189 : fr [0, 10, 11, 12, 18] [] (i1).toNat (i1).toNat sc ai al az sc174 ai175 al176 az177 := fr_t hF165 hG181 rfl rfl (by omega)
          have hR190 := ri2_fr hR166 hK hG181 rfl rfl rfl rfl rfl rfl rfl rfl rfl (by omega)
          have hS191 := sjk_fr hS167 hK hG181 rfl rfl
          refine w_kI e108_385 ?_
          exact w_rz e108_386 rfl (by omega) ⟨⟨sc174, ai175, al176, az177, hM178, hK179, hI180, hF189, hR190⟩, 1, (by omega), rfl⟩
        ·
          refine w_ldI e108_286 (fun _ => rfl) rfl ?_
          refine w_stI (j := 12) (A1 := [some (.ref 238), some (.int (vz i1)), some (.long l_2), none, some (.int (vz i3)), some (.long y5), none, some (.int (vz x7)), some (.int (vz x8)), some (.int (vz x9)), some (.long y10), none, some (.int (vz x8))]) e108_288 (fun _ => rfl) (by decide) rfl ?_
          exact w_sub (A1 := [some (.ref 238), some (.int (vz i1)), some (.long l_2), none, some (.int (vz i3)), none, none, some (.int (vz x7)), none, none, none, none, some (.int (vz x8))]) (And.intro rfl (And.intro rfl (And.intro rfl (And.intro rfl (And.intro rfl (And.intro rfl trivial)))))) ((ih.2.2.2.2.2) vh sc_ al x7 x8 hM hK hF (by omega) (by omega) hi0 (sg_gd (s := i1) hJ.1.2 (by omega) rfl) (by omega) (by omega))
      ·
        refine w_ldA e108_241 (fun _ => rfl) rfl ?_
        have e192 := tm_o hM
        refine w_get e108_242 e192 rfl ?_
        refine w_ldI e108_245 (fun _ => rfl) rfl ?_
        refine w_ldI e108_247 (fun _ => rfl) rfl ?_
        refine w_iadd e108_249 ?_
        refine w_ldL e108_250 (fun _ => rfl) rfl ?_
        have e193 := tm_l hM (a := 243) (n := 4320) rfl
        refine w_lst e108_251 e193 (by omega) (by omega) (by decide) (fun v196 b194 h195 => ?_)
        obtain ⟨al197, hd199, hM198⟩ : ∃ z, z = u2 al 243 (x7 + x8).toNat l_2 ∧ tm sc_ ai z az v0 v196 := ⟨_, rfl, tm_pl hM rfl b194 h195⟩
        have hF200 : fr [0, 10, 11, 12, 18] [] (i1).toNat (i1).toNat sc ai al az sc_ ai al197 az := fr_k hF hd199 (by decide) (by omega)
        have hR201 := ri2_fr hi0 hK (fr_k (X := []) (Y := []) (lo := (i1).toNat) (hi := (i1).toNat) (fr_0 _ _ _ _ sc_ ai al az) hd199 (by decide) (by omega)) rfl rfl rfl rfl rfl rfl rfl rfl rfl (by omega)
        have hS202 := sjk_fr hi0.1 hK (fr_k (X := []) (Y := []) (lo := (i1).toNat) (hi := (i1).toNat) (fr_0 _ _ _ _ sc_ ai al az) hd199 (by decide) (by omega)) rfl rfl
        have hsg203 := sg_put (sg_gd (s := i1) hJ.1.2 (by omega) rfl) (by omega) (by omega) (show gl l_2 from ⟨by omega, by omega, by omega⟩) hd199
        refine w_ldA e108_252 (fun _ => rfl) rfl ?_
        have e204 := tm_o hM198
        refine w_get e108_253 e204 rfl ?_
        refine w_ldI e108_256 (fun _ => rfl) rfl ?_
        refine w_ldI e108_258 (fun _ => rfl) rfl ?_
        refine w_iadd e108_260 ?_
        refine w_ldL e108_261 (fun _ => rfl) rfl ?_
        have e205 := tm_l hM198 (a := 244) (n := 4320) rfl
        refine w_lst e108_263 e205 (by omega) (by omega) (by decide) (fun v208 b206 h207 => ?_)
        obtain ⟨al209, hd211, hM210⟩ : ∃ z, z = u2 al197 244 (x7 + x8).toNat y5 ∧ tm sc_ ai z az v0 v208 := ⟨_, rfl, tm_pl hM198 rfl b206 h207⟩
        have hF212 : fr [0, 10, 11, 12, 18] [] (i1).toNat (i1).toNat sc ai al az sc_ ai al209 az := fr_k hF200 hd211 (by decide) (by omega)
        have hR213 := ri2_fr hR201 hK (fr_k (X := []) (Y := []) (lo := (i1).toNat) (hi := (i1).toNat) (fr_0 _ _ _ _ sc_ ai al197 az) hd211 (by decide) (by omega)) rfl rfl rfl rfl rfl rfl rfl rfl rfl (by omega)
        have hS214 := sjk_fr hS202 hK (fr_k (X := []) (Y := []) (lo := (i1).toNat) (hi := (i1).toNat) (fr_0 _ _ _ _ sc_ ai al197 az) hd211 (by decide) (by omega)) rfl rfl
        have hsg215 := sg_k hsg203 hd211
        refine w_ldA e108_264 (fun _ => rfl) rfl ?_
        have e216 := tm_o hM210
        refine w_get e108_265 e216 rfl ?_
        refine w_ldI e108_268 (fun _ => rfl) rfl ?_
        refine w_x e108_269 (fun _ => rfl) ?_
        have e217 := tm_i hM210 (a := 242) (n := 72) rfl
        refine w_ald e108_270 e217 (by omega) (by omega) (by decide) ?_
        show vm_Wp _ _ _ 271 _ [.int (vz (ai 242 (i1).toNat)), .int (vz i1), .ref 242] _ _
        have hk218 := hK.1 (i1).toNat
        refine w_kI e108_271 ?_
        refine w_iadd e108_272 ?_
        refine w_ast e108_273 e217 (by omega) (by omega) (by decide) (by decide) (fun v221 b219 h220 => ?_)
        obtain ⟨ai222, hd224, hM223⟩ : ∃ z, z = u2 ai 242 (i1).toNat ((ai 242 (i1).toNat) + 1) ∧ tm sc_ z al209 az v0 v221 := ⟨_, rfl, tm_pi hM210 rfl (by omega) b219 h220⟩
        have hK225 : tmok ai222 := by rw [hd224]; exact tmok_c hK (by omega)
        have hF226 : fr [0, 10, 11, 12, 18] [] (i1).toNat (i1).toNat sc ai al az sc_ ai222 al209 az := fr_c hF212 hd224 (by omega)
        have hR227 := ri2_fr hR213 hK (fr_c (X := []) (Y := []) (lo := (i1).toNat) (hi := (i1).toNat) (fr_0 _ _ _ _ sc_ ai al209 az) hd224 (by omega)) rfl rfl rfl rfl rfl rfl rfl rfl rfl (by omega)
        have hS228 := sjk_fr hS214 hK (fr_c (X := []) (Y := []) (lo := (i1).toNat) (hi := (i1).toNat) (fr_0 _ _ _ _ sc_ ai al209 az) hd224 (by omega)) rfl rfl
        have hI229 : gi sc_ ai222 al209 az := gi_new hI (s := i1) (by omega) hF226 (hF226.1 1 rfl) (hF226.1 4 rfl) (hF226.1 38 rfl) rfl hK225 (fun t ht => hsg215 t (by rw [hd224, u2_s] at ht; omega))
        refine w_x e108_274 (fun _ => rfl) ?_
        refine w_ldA e108_380 (fun _ => rfl) rfl ?_
        refine w_ldI e108_381 (fun _ => rfl) rfl ?_
        have e230 := tm_o hM223
        refine w_cv e108_382 (by decide) rfl e230 rfl (Nat.le_of_ble_eq_true rfl) (Nat.le_of_ble_eq_true rfl) (Nat.le_of_ble_eq_true rfl) (by decide) (by decide) (k80 hM223 hK225 hI229 (by omega)) (fun o231 v232 hq233 => ?_)
        obtain ⟨⟨sc234, ai235, al236, az237, hM238, hK239, hI240, hG241, hE242⟩, rfl⟩ := hq233
        have hs243 : sc234 0 = sc_ 0 := hG241.1 0 rfl
        have hs244 : sc234 1 = sc_ 1 := hG241.1 1 rfl
        have hs245 : sc234 4 = sc_ 4 := hG241.1 4 rfl
        have hs246 : sc234 11 = sc_ 11 := hG241.1 11 rfl
        have hs247 : sc234 18 = sc_ 18 := hG241.1 18 rfl
        have hs248 : sc234 38 = sc_ 38 := hG241.1 38 rfl
        have hF249 : fr [0, 10, 11, 12, 18] [] (i1).toNat (i1).toNat sc ai al az sc234 ai235 al236 az237 := fr_t hF226 hG241 rfl rfl (by omega)
        have hR250 := ri2_fr hR227 hK225 hG241 rfl rfl rfl rfl rfl rfl rfl rfl rfl (by omega)
        have hS251 := sjk_fr hS228 hK225 hG241 rfl rfl
        refine w_kI e108_385 ?_
        exact w_rz e108_386 rfl (by omega) ⟨⟨sc234, ai235, al236, az237, hM238, hK239, hI240, hF249, hR250⟩, 1, (by omega), rfl⟩
    ·
      intro vh sc_ al_ x7 x12 hM hK hF hx7 hx12 hi0 hi1 hi2 hN
      have hn8 := hI.1.1
      have hcg := hK.1 (i1).toNat
      refine w_ldI e108_290 (fun _ => rfl) rfl ?_
      refine w_kI e108_292 ?_
      refine w_iadd e108_293 ?_
      refine w_ldA e108_294 (fun _ => rfl) rfl ?_
      have e252 := tm_o hM
      refine w_get e108_295 e252 rfl ?_
      refine w_ldI e108_298 (fun _ => rfl) rfl ?_
      have e253 := tm_i hM (a := 242) (n := 72) rfl
      refine w_ald e108_299 e253 (by omega) (by omega) (by decide) ?_
      show vm_Wp _ _ _ 300 _ [.int (vz (ai 242 (i1).toNat)), .int (vz (x12 + 1))] _ _
      have hk254 := hK.1 (i1).toNat
      refine w_ic e108_300 (by omega) (tm_r hM 242 (i1).toNat) (fun (h255 : ai 242 (i1).toNat ≤ x12 + 1) => ?_) (fun (h255 : x12 + 1 < ai 242 (i1).toNat) => ?_)
      ·
        refine w_ldA e108_353 (fun _ => rfl) rfl ?_
        refine w_get e108_354 e252 rfl ?_
        refine w_ldI e108_357 (fun _ => rfl) rfl ?_
        refine w_x e108_358 (fun _ => rfl) ?_
        refine w_ald e108_359 e253 (by omega) (by omega) (by decide) ?_
        show vm_Wp _ _ _ 360 _ [.int (vz (ai 242 (i1).toNat)), .int (vz i1), .ref 242] _ _
        have hk256 := hK.1 (i1).toNat
        refine w_kI e108_360 ?_
        refine w_isub e108_361 ?_
        refine w_ast e108_362 e253 (by omega) (by omega) (by decide) (by decide) (fun v259 b257 h258 => ?_)
        obtain ⟨ai260, hd262, hM261⟩ : ∃ z, z = u2 ai 242 (i1).toNat ((ai 242 (i1).toNat) - 1) ∧ tm sc_ z al_ az v0 v259 := ⟨_, rfl, tm_pi hM rfl (by omega) b257 h258⟩
        have hK263 : tmok ai260 := by rw [hd262]; exact tmok_c hK (by omega)
        have hF264 : fr [0, 10, 11, 12, 18] [] (i1).toNat (i1).toNat sc ai al az sc_ ai260 al_ az := fr_c hF hd262 (by omega)
        have hR265 := ri2_fr hi0 hK (fr_c (X := []) (Y := []) (lo := (i1).toNat) (hi := (i1).toNat) (fr_0 _ _ _ _ sc_ ai al_ az) hd262 (by omega)) rfl rfl rfl rfl rfl rfl rfl rfl rfl (by omega)
        have hS266 := sjk_fr hi0.1 hK (fr_c (X := []) (Y := []) (lo := (i1).toNat) (hi := (i1).toNat) (fr_0 _ _ _ _ sc_ ai al_ az) hd262 (by omega)) rfl rfl
        have hI267 : gi sc_ ai260 al_ az := gi_new hI (s := i1) (by omega) hF264 (hF264.1 1 rfl) (hF264.1 4 rfl) (hF264.1 38 rfl) rfl hK263 (fun t ht => hi1 t (by rw [hd262, u2_s] at ht; omega))
        refine w_x e108_363 (fun _ => rfl) ?_
        refine w_ldA e108_380 (fun _ => rfl) rfl ?_
        refine w_ldI e108_381 (fun _ => rfl) rfl ?_
        have e268 := tm_o hM261
        refine w_cv e108_382 (by decide) rfl e268 rfl (Nat.le_of_ble_eq_true rfl) (Nat.le_of_ble_eq_true rfl) (Nat.le_of_ble_eq_true rfl) (by decide) (by decide) (k80 hM261 hK263 hI267 (by omega)) (fun o269 v270 hq271 => ?_)
        obtain ⟨⟨sc272, ai273, al274, az275, hM276, hK277, hI278, hG279, hE280⟩, rfl⟩ := hq271
        have hs281 : sc272 0 = sc_ 0 := hG279.1 0 rfl
        have hs282 : sc272 1 = sc_ 1 := hG279.1 1 rfl
        have hs283 : sc272 4 = sc_ 4 := hG279.1 4 rfl
        have hs284 : sc272 11 = sc_ 11 := hG279.1 11 rfl
        have hs285 : sc272 18 = sc_ 18 := hG279.1 18 rfl
        have hs286 : sc272 38 = sc_ 38 := hG279.1 38 rfl
        have hF287 : fr [0, 10, 11, 12, 18] [] (i1).toNat (i1).toNat sc ai al az sc272 ai273 al274 az275 := fr_t hF264 hG279 rfl rfl (by omega)
        have hR288 := ri2_fr hR265 hK263 hG279 rfl rfl rfl rfl rfl rfl rfl rfl rfl (by omega)
        have hS289 := sjk_fr hS266 hK263 hG279 rfl rfl
        refine w_kI e108_385 ?_
        exact w_rz e108_386 rfl (by omega) ⟨⟨sc272, ai273, al274, az275, hM276, hK277, hI278, hF287, hR288⟩, 1, (by omega), rfl⟩
      ·
        refine w_ldA e108_303 (fun _ => rfl) rfl ?_
        refine w_get e108_304 e252 rfl ?_
        refine w_ldI e108_307 (fun _ => rfl) rfl ?_
        refine w_ldI e108_309 (fun _ => rfl) rfl ?_
        refine w_iadd e108_311 ?_
        refine w_ldA e108_312 (fun _ => rfl) rfl ?_
        refine w_get e108_313 e252 rfl ?_
        refine w_ldI e108_316 (fun _ => rfl) rfl ?_
        refine w_ldI e108_318 (fun _ => rfl) rfl ?_
        refine w_iadd e108_320 ?_
        refine w_kI e108_321 ?_
        refine w_iadd e108_322 ?_
        have e290 := tm_l hM (a := 243) (n := 4320) rfl
        refine w_lld e108_323 e290 (by omega) (by omega) (by decide) ?_
        refine w_lst e108_324 e290 (by omega) (by omega) (by decide) (fun v293 b291 h292 => ?_)
        obtain ⟨al294, hd296, hM295⟩ : ∃ z, z = u2 al_ 243 (x7 + x12).toNat ((al_ 243 ((x7 + x12) + 1).toNat)) ∧ tm sc_ ai z az v0 v293 := ⟨_, rfl, tm_pl hM rfl b291 h292⟩
        have hF297 : fr [0, 10, 11, 12, 18] [] (i1).toNat (i1).toNat sc ai al az sc_ ai al294 az := fr_k hF hd296 (by decide) (by omega)
        have hR298 := ri2_fr hi0 hK (fr_k (X := []) (Y := []) (lo := (i1).toNat) (hi := (i1).toNat) (fr_0 _ _ _ _ sc_ ai al_ az) hd296 (by decide) (by omega)) rfl rfl rfl rfl rfl rfl rfl rfl rfl (by omega)
        have hS299 := sjk_fr hi0.1 hK (fr_k (X := []) (Y := []) (lo := (i1).toNat) (hi := (i1).toNat) (fr_0 _ _ _ _ sc_ ai al_ az) hd296 (by decide) (by omega)) rfl rfl
        have hsg300 := sg_w hi1 (sg_at hi1 (t := x12 + 1) (by omega) (by omega)) hd296
        refine w_ldA e108_325 (fun _ => rfl) rfl ?_
        have e301 := tm_o hM295
        refine w_get e108_326 e301 rfl ?_
        refine w_ldI e108_329 (fun _ => rfl) rfl ?_
        refine w_ldI e108_331 (fun _ => rfl) rfl ?_
        refine w_iadd e108_333 ?_
        refine w_ldA e108_334 (fun _ => rfl) rfl ?_
        refine w_get e108_335 e301 rfl ?_
        refine w_ldI e108_338 (fun _ => rfl) rfl ?_
        refine w_ldI e108_340 (fun _ => rfl) rfl ?_
        refine w_iadd e108_342 ?_
        refine w_kI e108_343 ?_
        refine w_iadd e108_344 ?_
        have e302 := tm_l hM295 (a := 244) (n := 4320) rfl
        refine w_lld e108_345 e302 (by omega) (by omega) (by decide) ?_
        refine w_lst e108_346 e302 (by omega) (by omega) (by decide) (fun v305 b303 h304 => ?_)
        obtain ⟨al306, hd308, hM307⟩ : ∃ z, z = u2 al294 244 (x7 + x12).toNat ((al294 244 ((x7 + x12) + 1).toNat)) ∧ tm sc_ ai z az v0 v305 := ⟨_, rfl, tm_pl hM295 rfl b303 h304⟩
        have hF309 : fr [0, 10, 11, 12, 18] [] (i1).toNat (i1).toNat sc ai al az sc_ ai al306 az := fr_k hF297 hd308 (by decide) (by omega)
        have hR310 := ri2_fr hR298 hK (fr_k (X := []) (Y := []) (lo := (i1).toNat) (hi := (i1).toNat) (fr_0 _ _ _ _ sc_ ai al294 az) hd308 (by decide) (by omega)) rfl rfl rfl rfl rfl rfl rfl rfl rfl (by omega)
        have hS311 := sjk_fr hS299 hK (fr_k (X := []) (Y := []) (lo := (i1).toNat) (hi := (i1).toNat) (fr_0 _ _ _ _ sc_ ai al294 az) hd308 (by decide) (by omega)) rfl rfl
        have hsg312 := sg_k hsg300 hd308
        refine w_iinc (A1 := [some (.ref 238), some (.int (vz i1)), some (.long l_2), none, some (.int (vz i3)), none, none, some (.int (vz x7)), none, none, none, none, some (.int (vz (x12 + 1)))]) e108_347 rfl (by decide) rfl ?_
        refine w_x e108_350 (fun _ => rfl) ?_
        exact w_sub (A1 := [some (.ref 238), some (.int (vz i1)), some (.long l_2), none, some (.int (vz i3)), none, none, some (.int (vz x7)), none, none, none, none, some (.int (vz (x12 + 1)))]) (And.intro rfl (And.intro rfl (And.intro rfl (And.intro rfl (And.intro rfl (And.intro rfl trivial)))))) ((ih.2.2.2.2.2) v305 sc_ al306 x7 (x12 + 1) hM307 hK hF309 (by omega) (by omega) hR310 hsg312 (by omega) (by omega))
set_option maxRecDepth 100000 in
set_option maxHeartbeats 4000000 in
theorem c108 {sc : Nat → Int} {ai : Nat → Nat → Int} {al : Nat → Nat → Int64} {az : Nat → Nat → Int32} {v0 vh : vm_H} (hM : tm sc ai al az v0 vh) (hK : tmok ai) (hI : gi sc ai al az) {i1 : Int} (hi_1 : -2147483648 ≤ i1 ∧ i1 < 2147483648) {l_2 : Int64} {i3 : Int} (hi_3 : -2147483648 ≤ i3 ∧ i3 < 2147483648) (hR : ri2 sc ai al az) : vm_Rp 3 77 108 [.ref 238, .int (vz i1), .long l_2, .int (vz i3)] vh (fun r v1 => (∃ (sc1 : Nat → Int) (ai1 : Nat → Nat → Int) (al1 : Nat → Nat → Int64) (az1 : Nat → Nat → Int32), tm sc1 ai1 al1 az1 v0 v1 ∧ tmok ai1 ∧ gi sc1 ai1 al1 az1 ∧ fr [0, 10, 11, 12, 18] [] (i1).toNat (i1).toNat sc ai al az sc1 ai1 al1 az1 ∧ (ri2 sc1 ai1 al1 az1)) ∧ ∃ q : Int, ((0 ≤ q ∧ q ≤ 1)) ∧ r = some (.int (vz q))) := by
  have hF0 : fr [0, 10, 11, 12, 18] [] (i1).toNat (i1).toNat sc ai al az sc ai al az := fr_0 _ _ _ _ _ _ _ _
  have hn8 := hI.1.1
  have hz0 : (Int64.ofNat 0).toInt = 0 := rfl
  refine w_in (m := 8) ?_
  show vm_Wp _ _ _ 0 [some (.ref 238), some (.int (vz i1)), some (.long l_2), none, some (.int (vz i3)), none, none, none, none, none, none, none, none] [] _ _
  refine w_ldA e108_0 (fun _ => rfl) rfl ?_
  refine w_kI e108_1 ?_
  have e1 := tm_o hM
  refine w_put e108_2 e1 (Nat.le_of_ble_eq_true rfl) rfl (fun v4 b2 h3 => ?_)
  obtain ⟨sc5, hd7, hM6⟩ : ∃ z, z = u1 sc 0 (0) ∧ tm z ai al az v0 v4 := ⟨_, rfl, tm_ps 0 hM (by omega) b2 h3⟩
  have hs8 : sc5 0 = 0 := by rw [hd7]; exact u1_s
  have hs9 : sc5 1 = sc 1 := by rw [hd7]; exact u1_o (by decide)
  have hs10 : sc5 4 = sc 4 := by rw [hd7]; exact u1_o (by decide)
  have hs11 : sc5 11 = sc 11 := by rw [hd7]; exact u1_o (by decide)
  have hs12 : sc5 18 = sc 18 := by rw [hd7]; exact u1_o (by decide)
  have hs13 : sc5 38 = sc 38 := by rw [hd7]; exact u1_o (by decide)
  have hF14 : fr [0, 10, 11, 12, 18] [] (i1).toNat (i1).toNat sc ai al az sc5 ai al az := fr_s hF0 hd7 rfl
  have hI15 : gi sc5 ai al az := gi_s hI hd7 (by decide) (by decide) (by decide)
  have hR16 := ri2_fr hR hK (fr_s (X := [0]) (Y := []) (lo := 1) (hi := 0) (fr_0 _ _ _ _ sc ai al az) hd7 rfl) rfl rfl rfl rfl rfl rfl rfl rfl rfl (by omega)
  have hS17 := sjk_fr hR.1 hK (fr_s (X := [0]) (Y := []) (lo := 1) (hi := 0) (fr_0 _ _ _ _ sc ai al az) hd7 rfl) rfl rfl
  refine w_ldA e108_5 (fun _ => rfl) rfl ?_
  refine w_ldI e108_6 (fun _ => rfl) rfl ?_
  have e18 := tm_o hM6
  refine w_cv e108_7 (by decide) rfl e18 rfl (Nat.le_of_ble_eq_true rfl) (Nat.le_of_ble_eq_true rfl) (Nat.le_of_ble_eq_true rfl) (by decide) (by decide) (c103 hM6 hK hi_1) (fun o19 v20 hq21 => ?_)
  obtain ⟨rfl, q22, h23, rfl⟩ := hq21
  refine w_if e108_10 (by omega) (fun (h24 : q22 = 0) => ?_) (fun (h24 : q22 ≠ 0) => ?_)
  ·
    refine w_x e108_15 (fun _ => rfl) ?_
    refine w_stL (j := 5) (A1 := [some (.ref 238), some (.int (vz i1)), some (.long l_2), none, some (.int (vz i3)), some (.long ((Int64.ofNat 0))), none, none, none, none, none, none, none]) e108_16 (fun _ => rfl) (by decide) rfl ?_
    refine w_kI e108_18 ?_
    refine w_stI (j := 7) (A1 := [some (.ref 238), some (.int (vz i1)), some (.long l_2), none, some (.int (vz i3)), some (.long ((Int64.ofNat 0))), none, some (.int (vz 0)), none, none, none, none, none]) e108_19 (fun _ => rfl) (by decide) rfl ?_
    exact w_sub (A1 := [some (.ref 238), some (.int (vz i1)), some (.long l_2), none, some (.int (vz i3)), some (.long ((Int64.ofNat 0))), none, some (.int (vz 0)), none, none, none, none, none]) (And.intro rfl (And.intro rfl (And.intro rfl (And.intro rfl (And.intro rfl (And.intro rfl trivial)))))) (((c108_L (sc := sc) (ai := ai) (al := al) (az := az) (v0 := v0) (i1 := i1) (l_2 := l_2) (i3 := i3) hK hI hi_1 hi_3 hR _).1) v4 sc5 ((Int64.ofNat 0)) 0 hM6 hK hI15 hF14 (by omega) hR16 (by omega) (Nat.lt_succ_self _))
  ·
    refine w_kI e108_13 ?_
    exact w_rz e108_14 rfl (by omega) ⟨⟨sc5, ai, al, az, hM6, hK, hI15, hF14, hR16⟩, 0, (by omega), rfl⟩
