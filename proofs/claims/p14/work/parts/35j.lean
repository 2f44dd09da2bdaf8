set_option maxRecDepth 100000 in
set_option maxHeartbeats 4000000 in
theorem r108f_L {sc : Nat → Int} {ai : Nat → Nat → Int} {al : Nat → Nat → Int64} {az : Nat → Nat → Int32} {v0 : vm_H} (hK : tmok ai) {i1 : Int} (hi_1 : -2147483648 ≤ i1 ∧ i1 < 2147483648) {l_2 : Int64} {i3 : Int} (hi_3 : -2147483648 ≤ i3 ∧ i3 < 2147483648) (hn : 0 ≤ sc 1 ∧ sc 1 ≤ 8) (hp : 0 ≤ sc 4 ∧ sc 4 ≤ 16) : ∀ N : Nat, (∀ (vh : vm_H) (sc_ : Nat → Int) (y5 : Int64) (x7 : Int), (tm sc_ ai al az v0 vh) → (0 ≤ x7 ∧ x7 ≤ 8) → (sc_ = u1 sc 0 0) → (0 ≤ i1 ∧ i1 < sc 4) → ((2000 + 8 - x7 : Int).toNat < N) → vm_Wp 3 77 108 21 [some (.ref 238), some (.int (vz i1)), some (.long l_2), none, some (.int (vz i3)), some (.long y5), none, some (.int (vz x7)), none, none, none, none, none] [] vh (vq_P 108 (fun r v1 => ∃ (sc1 : Nat → Int) (ai1 : Nat → Nat → Int) (al1 : Nat → Nat → Int64) (q : Int), ((0 ≤ q ∧ q ≤ 1) ∧ ((sc1 = u1 sc 0 0 ∧ ¬ (q = 1 ∧ l_2.toInt ≠ 0 ∧ az 241 (i1).toNat ≠ 0)) ∨ (sc1 = fgS (u1 sc 0 0) ∧ (0 ≤ i1 ∧ i1 < sc 4) ∧ q = 1 ∧ l_2.toInt ≠ 0 ∧ az 241 (i1).toNat ≠ 0))) ∧ r = some (.int (vz q)) ∧ tmok ai1 ∧ tm sc1 ai1 al1 az v0 v1))) ∧ (∀ (vh : vm_H) (sc_ : Nat → Int) (y5 : Int64) (x7 : Int) (x8 : Int), (tm sc_ ai al az v0 vh) → (x7 = 60 * i1) → (0 ≤ x8 ∧ x8 ≤ ai 242 (i1).toNat) → (sc_ = u1 sc 0 0) → (0 ≤ i1 ∧ i1 < sc 4) → ((1000 + 60 - x8 : Int).toNat < N) → vm_Wp 3 77 108 85 [some (.ref 238), some (.int (vz i1)), some (.long l_2), none, some (.int (vz i3)), some (.long y5), none, some (.int (vz x7)), some (.int (vz x8)), none, none, none, none] [] vh (vq_P 108 (fun r v1 => ∃ (sc1 : Nat → Int) (ai1 : Nat → Nat → Int) (al1 : Nat → Nat → Int64) (q : Int), ((0 ≤ q ∧ q ≤ 1) ∧ ((sc1 = u1 sc 0 0 ∧ ¬ (q = 1 ∧ l_2.toInt ≠ 0 ∧ az 241 (i1).toNat ≠ 0)) ∨ (sc1 = fgS (u1 sc 0 0) ∧ (0 ≤ i1 ∧ i1 < sc 4) ∧ q = 1 ∧ l_2.toInt ≠ 0 ∧ az 241 (i1).toNat ≠ 0))) ∧ r = some (.int (vz q)) ∧ tmok ai1 ∧ tm sc1 ai1 al1 az v0 v1))) ∧ (∀ (vh : vm_H) (sc_ : Nat → Int) (y5 : Int64) (x7 : Int) (x8 : Int) (x9 : Int) (y10 : Int64), (tm sc_ ai al az v0 vh) → (x7 = 60 * i1) → (0 ≤ x8 ∧ x8 ≤ ai 242 (i1).toNat) → ((x9 = 1 ∧ x8 < ai 242 (i1).toNat) ∨ (x9 = 0 ∧ x8 = ai 242 (i1).toNat)) → (sc_ = u1 sc 0 0) → (0 ≤ i1 ∧ i1 < sc 4) → ((900 : Int).toNat < N) → vm_Wp 3 77 108 157 [some (.ref 238), some (.int (vz i1)), some (.long l_2), none, some (.int (vz i3)), some (.long y5), none, some (.int (vz x7)), some (.int (vz x8)), some (.int (vz x9)), some (.long y10), none, none] [] vh (vq_P 108 (fun r v1 => ∃ (sc1 : Nat → Int) (ai1 : Nat → Nat → Int) (al1 : Nat → Nat → Int64) (q : Int), ((0 ≤ q ∧ q ≤ 1) ∧ ((sc1 = u1 sc 0 0 ∧ ¬ (q = 1 ∧ l_2.toInt ≠ 0 ∧ az 241 (i1).toNat ≠ 0)) ∨ (sc1 = fgS (u1 sc 0 0) ∧ (0 ≤ i1 ∧ i1 < sc 4) ∧ q = 1 ∧ l_2.toInt ≠ 0 ∧ az 241 (i1).toNat ≠ 0))) ∧ r = some (.int (vz q)) ∧ tmok ai1 ∧ tm sc1 ai1 al1 az v0 v1))) ∧ (∀ (vh : vm_H) (sc_ : Nat → Int) (y5 : Int64) (x7 : Int) (x8 : Int) (x9 : Int) (y10 : Int64), (tm sc_ ai al az v0 vh) → (x7 = 60 * i1) → (0 ≤ x8 ∧ x8 ≤ ai 242 (i1).toNat) → ((x9 = 1 ∧ x8 < ai 242 (i1).toNat) ∨ (x9 = 0 ∧ x8 = ai 242 (i1).toNat)) → (sc_ = u1 sc 0 0) → (0 ≤ i1 ∧ i1 < sc 4) → (x9 = 1 ∨ l_2.toInt = 0 ∨ x8 ≠ 60) → ((800 : Int).toNat < N) → vm_Wp 3 77 108 215 [some (.ref 238), some (.int (vz i1)), some (.long l_2), none, some (.int (vz i3)), some (.long y5), none, some (.int (vz x7)), some (.int (vz x8)), some (.int (vz x9)), some (.long y10), none, none] [] vh (vq_P 108 (fun r v1 => ∃ (sc1 : Nat → Int) (ai1 : Nat → Nat → Int) (al1 : Nat → Nat → Int64) (q : Int), ((0 ≤ q ∧ q ≤ 1) ∧ ((sc1 = u1 sc 0 0 ∧ ¬ (q = 1 ∧ l_2.toInt ≠ 0 ∧ az 241 (i1).toNat ≠ 0)) ∨ (sc1 = fgS (u1 sc 0 0) ∧ (0 ≤ i1 ∧ i1 < sc 4) ∧ q = 1 ∧ l_2.toInt ≠ 0 ∧ az 241 (i1).toNat ≠ 0))) ∧ r = some (.int (vz q)) ∧ tmok ai1 ∧ tm sc1 ai1 al1 az v0 v1))) ∧ (∀ (vh : vm_H) (sc_ : Nat → Int) (y5 : Int64) (x7 : Int) (x8 : Int) (x9 : Int) (y10 : Int64), (tm sc_ ai al az v0 vh) → (x7 = 60 * i1) → (0 ≤ x8 ∧ x8 ≤ ai 242 (i1).toNat) → ((x9 = 1 ∧ x8 < ai 242 (i1).toNat) ∨ (x9 = 0 ∧ x8 = ai 242 (i1).toNat)) → (tfR sc sc_ az i1) → (0 ≤ i1 ∧ i1 < sc 4) → (l_2.toInt ≠ 0) → (x9 = 1 ∨ x8 ≠ 60) → ((700 : Int).toNat < N) → vm_Wp 3 77 108 236 [some (.ref 238), some (.int (vz i1)), some (.long l_2), none, some (.int (vz i3)), some (.long y5), none, some (.int (vz x7)), some (.int (vz x8)), some (.int (vz x9)), some (.long y10), none, none] [] vh (vq_P 108 (fun r v1 => ∃ (sc1 : Nat → Int) (ai1 : Nat → Nat → Int) (al1 : Nat → Nat → Int64) (q : Int), ((0 ≤ q ∧ q ≤ 1) ∧ ((sc1 = u1 sc 0 0 ∧ ¬ (q = 1 ∧ l_2.toInt ≠ 0 ∧ az 241 (i1).toNat ≠ 0)) ∨ (sc1 = fgS (u1 sc 0 0) ∧ (0 ≤ i1 ∧ i1 < sc 4) ∧ q = 1 ∧ l_2.toInt ≠ 0 ∧ az 241 (i1).toNat ≠ 0))) ∧ r = some (.int (vz q)) ∧ tmok ai1 ∧ tm sc1 ai1 al1 az v0 v1))) ∧ (∀ (vh : vm_H) (sc_ : Nat → Int) (al_ : Nat → Nat → Int64) (x7 : Int) (x12 : Int), (tm sc_ ai al_ az v0 vh) → (x7 = 60 * i1) → (0 ≤ x12 ∧ x12 < ai 242 (i1).toNat) → (tfR sc sc_ az i1) → (0 ≤ i1 ∧ i1 < sc 4) → (l_2.toInt ≠ 0) → ((60 - x12 : Int).toNat < N) → vm_Wp 3 77 108 290 [some (.ref 238), some (.int (vz i1)), some (.long l_2), none, some (.int (vz i3)), none, none, some (.int (vz x7)), none, none, none, none, some (.int (vz x12))] [] vh (vq_P 108 (fun r v1 => ∃ (sc1 : Nat → Int) (ai1 : Nat → Nat → Int) (al1 : Nat → Nat → Int64) (q : Int), ((0 ≤ q ∧ q ≤ 1) ∧ ((sc1 = u1 sc 0 0 ∧ ¬ (q = 1 ∧ l_2.toInt ≠ 0 ∧ az 241 (i1).toNat ≠ 0)) ∨ (sc1 = fgS (u1 sc 0 0) ∧ (0 ≤ i1 ∧ i1 < sc 4) ∧ q = 1 ∧ l_2.toInt ≠ 0 ∧ az 241 (i1).toNat ≠ 0))) ∧ r = some (.int (vz q)) ∧ tmok ai1 ∧ tm sc1 ai1 al1 az v0 v1))) := by
  intro N
  induction N with
  | zero => exact ⟨by intros; omega, by intros; omega, by intros; omega, by intros; omega, by intros; omega, by intros; omega⟩
  | succ N ih =>
    refine ⟨?_, ?_, ?_, ?_, ?_, ?_⟩
    ·
      intro vh sc_ y5 x7 hM hx7 hi0q hi1 hN
      have hs1 : sc_ 1 = sc 1 := by rw [hi0q, u1_o (by decide)]
      have hs4 : sc_ 4 = sc 4 := by rw [hi0q, u1_o (by decide)]
      have hcg := hK.1 (i1).toNat
      refine w_ldI e108_21 (fun _ => rfl) rfl ?_
      refine w_kB e108_23 rfl ?_
      refine w_ic e108_25 (by omega) (by omega) (fun (h16q : 8 ≤ x7) => ?_) (fun (h16q : x7 < 8) => ?_)
      ·
        refine w_kB e108_76 rfl ?_
        refine w_ldI e108_78 (fun _ => rfl) rfl ?_
        refine w_imul e108_79 ?_
        refine w_stI (j := 7) (A1 := [some (.ref 238), some (.int (vz i1)), some (.long l_2), none, some (.int (vz i3)), some (.long y5), none, some (.int (vz (60 * i1))), none, none, none, none, none]) e108_80 (fun _ => rfl) (by decide) rfl ?_
        refine w_kI e108_82 ?_
        refine w_stI (j := 8) (A1 := [some (.ref 238), some (.int (vz i1)), some (.long l_2), none, some (.int (vz i3)), some (.long y5), none, some (.int (vz (60 * i1))), some (.int (vz 0)), none, none, none, none]) e108_83 (fun _ => rfl) (by decide) rfl ?_
        exact w_sub (A1 := [some (.ref 238), some (.int (vz i1)), some (.long l_2), none, some (.int (vz i3)), some (.long y5), none, some (.int (vz (60 * i1))), some (.int (vz 0)), none, none, none, none]) (And.intro rfl (And.intro rfl (And.intro rfl (And.intro rfl (And.intro rfl (And.intro rfl (And.intro rfl trivial))))))) ((ih.2.1) vh sc_ y5 (60 * i1) 0 hM (by omega) (by omega) hi0q hi1 (by omega))
      ·
        refine w_ldI e108_28 (fun _ => rfl) rfl ?_
        refine w_kI e108_30 ?_
        refine w_ldI e108_31 (fun _ => rfl) rfl ?_
        refine w_imul e108_33 ?_
        refine w_oI e108_34 (fun _ => rfl) (fun q17 h18 => ?_)
        refine w_kB e108_35 rfl ?_
        refine w_iand e108_37 h18 (by omega) (fun q19 (h20 : 0 ≤ q19 ∧ q19 ≤ 15) => ?_)
        refine w_stI (j := 8) (A1 := [some (.ref 238), some (.int (vz i1)), some (.long l_2), none, some (.int (vz i3)), some (.long y5), none, some (.int (vz x7)), some (.int (vz q19)), none, none, none, none]) e108_38 (fun _ => rfl) (by decide) rfl ?_
        refine w_ldI e108_40 (fun _ => rfl) rfl ?_
        refine w_if e108_42 (by omega) (fun (h21 : q19 ≤ 0) => ?_) (fun (h21 : 0 < q19) => ?_)
        ·
          refine w_ldL e108_56 (fun _ => rfl) rfl ?_
          refine w_ldI e108_58 (fun _ => rfl) rfl ?_
          refine w_x e108_60 (fun _ => rfl) ?_
          refine w_kB e108_61 rfl ?_
          refine w_ldI e108_63 (fun _ => rfl) rfl ?_
          refine w_imul e108_65 ?_
          refine w_x e108_66 (fun _ => rfl) ?_
          refine w_x e108_67 (fun _ => rfl) ?_
          refine w_stL (j := 5) (A1 := [some (.ref 238), some (.int (vz i1)), some (.long l_2), none, some (.int (vz i3)), some (.long ((y5 ||| (((((vz q19).toInt64)) <<< ((vz (8 * x7)).toInt64 &&& 63)))))), none, some (.int (vz x7)), some (.int (vz q19)), none, none, none, none]) e108_68 (fun _ => rfl) (by decide) rfl ?_
          refine w_iinc (A1 := [some (.ref 238), some (.int (vz i1)), some (.long l_2), none, some (.int (vz i3)), some (.long ((y5 ||| (((((vz q19).toInt64)) <<< ((vz (8 * x7)).toInt64 &&& 63)))))), none, some (.int (vz (x7 + 1))), some (.int (vz q19)), none, none, none, none]) e108_70 rfl (by decide) rfl ?_
          refine w_x e108_73 (fun _ => rfl) ?_
          exact w_sub (A1 := [some (.ref 238), some (.int (vz i1)), some (.long l_2), none, some (.int (vz i3)), some (.long ((y5 ||| (((((vz q19).toInt64)) <<< ((vz (8 * x7)).toInt64 &&& 63)))))), none, some (.int (vz (x7 + 1))), none, none, none, none, none]) (And.intro rfl (And.intro rfl (And.intro rfl (And.intro rfl (And.intro rfl (And.intro rfl trivial)))))) ((ih.1) vh sc_ ((y5 ||| (((((vz q19).toInt64)) <<< ((vz (8 * x7)).toInt64 &&& 63))))) (x7 + 1) hM (by omega) hi0q hi1 (by omega))
        ·
          refine w_ldI e108_45 (fun _ => rfl) rfl ?_
          refine w_ldA e108_47 (fun _ => rfl) rfl ?_
          have e22 := tm_o hM
          refine w_get e108_48 e22 rfl ?_
          refine w_ic e108_51 (by omega) (tm_s hM 1) (fun (h23 : x7 < sc_ 1) => ?_) (fun (h23 : sc_ 1 ≤ x7) => ?_)
          ·
            refine w_ldL e108_56 (fun _ => rfl) rfl ?_
            refine w_ldI e108_58 (fun _ => rfl) rfl ?_
            refine w_x e108_60 (fun _ => rfl) ?_
            refine w_kB e108_61 rfl ?_
            refine w_ldI e108_63 (fun _ => rfl) rfl ?_
            refine w_imul e108_65 ?_
            refine w_x e108_66 (fun _ => rfl) ?_
            refine w_x e108_67 (fun _ => rfl) ?_
            refine w_stL (j := 5) (A1 := [some (.ref 238), some (.int (vz i1)), some (.long l_2), none, some (.int (vz i3)), some (.long ((y5 ||| (((((vz q19).toInt64)) <<< ((vz (8 * x7)).toInt64 &&& 63)))))), none, some (.int (vz x7)), some (.int (vz q19)), none, none, none, none]) e108_68 (fun _ => rfl) (by decide) rfl ?_
            refine w_iinc (A1 := [some (.ref 238), some (.int (vz i1)), some (.long l_2), none, some (.int (vz i3)), some (.long ((y5 ||| (((((vz q19).toInt64)) <<< ((vz (8 * x7)).toInt64 &&& 63)))))), none, some (.int (vz (x7 + 1))), some (.int (vz q19)), none, none, none, none]) e108_70 rfl (by decide) rfl ?_
            refine w_x e108_73 (fun _ => rfl) ?_
            exact w_sub (A1 := [some (.ref 238), some (.int (vz i1)), some (.long l_2), none, some (.int (vz i3)), some (.long ((y5 ||| (((((vz q19).toInt64)) <<< ((vz (8 * x7)).toInt64 &&& 63)))))), none, some (.int (vz (x7 + 1))), none, none, none, none, none]) (And.intro rfl (And.intro rfl (And.intro rfl (And.intro rfl (And.intro rfl (And.intro rfl trivial)))))) ((ih.1) vh sc_ ((y5 ||| (((((vz q19).toInt64)) <<< ((vz (8 * x7)).toInt64 &&& 63))))) (x7 + 1) hM (by omega) hi0q hi1 (by omega))
          ·
            refine w_kI e108_54 ?_
            exact w_rz e108_55 rfl (by omega) ⟨sc_, ai, al, 0, ⟨by omega, Or.inl ⟨hi0q, fun h9 => absurd h9.1 (by decide)⟩⟩, rfl, hK, hM⟩
    ·
      intro vh sc_ y5 x7 x8 hM hx7 hx8 hi0q hi1 hN
      have hs1 : sc_ 1 = sc 1 := by rw [hi0q, u1_o (by decide)]
      have hs4 : sc_ 4 = sc 4 := by rw [hi0q, u1_o (by decide)]
      have hcg := hK.1 (i1).toNat
      refine w_ldI e108_85 (fun _ => rfl) rfl ?_
      refine w_ldA e108_87 (fun _ => rfl) rfl ?_
      have e24 := tm_o hM
      refine w_get e108_88 e24 rfl ?_
      refine w_ldI e108_91 (fun _ => rfl) rfl ?_
      have e25 := tm_i hM (a := 242) (n := 72) rfl
      refine w_ald e108_92 e25 (by omega) (by omega) (by decide) ?_
      show vm_Wp _ _ _ 93 _ [.int (vz (ai 242 (i1).toNat)), .int (vz x8)] _ _
      have hk26 := hK.1 (i1).toNat
      refine w_ic e108_93 (by omega) (tm_r hM 242 (i1).toNat) (fun (h27 : ai 242 (i1).toNat ≤ x8) => ?_) (fun (h27 : x8 < ai 242 (i1).toNat) => ?_)
      ·
        refine w_ldI e108_118 (fun _ => rfl) rfl ?_
        refine w_ldA e108_120 (fun _ => rfl) rfl ?_
        refine w_get e108_121 e24 rfl ?_
        refine w_ldI e108_124 (fun _ => rfl) rfl ?_
        refine w_ald e108_125 e25 (by omega) (by omega) (by decide) ?_
        show vm_Wp _ _ _ 126 _ [.int (vz (ai 242 (i1).toNat)), .int (vz x8)] _ _
        have hk28 := hK.1 (i1).toNat
        refine w_ic e108_126 (by omega) (tm_r hM 242 (i1).toNat) (fun (h29 : ai 242 (i1).toNat ≤ x8) => ?_) (fun (h29 : x8 < ai 242 (i1).toNat) => ?_)
        ·
          refine w_kI e108_133 ?_
          refine w_stI (j := 9) (A1 := [some (.ref 238), some (.int (vz i1)), some (.long l_2), none, some (.int (vz i3)), some (.long y5), none, some (.int (vz x7)), some (.int (vz x8)), some (.int (vz 0)), none, none, none]) e108_134 (fun _ => rfl) (by decide) rfl ?_
          refine w_ldI e108_136 (fun _ => rfl) rfl ?_
          refine w_if e108_138 (by omega) (fun (h30 : 0 = 0) => ?_) (fun (h30 : 0 ≠ 0) => ?_)
          ·
            refine w_x e108_154 (fun _ => rfl) ?_
            refine w_stL (j := 10) (A1 := [some (.ref 238), some (.int (vz i1)), some (.long l_2), none, some (.int (vz i3)), some (.long y5), none, some (.int (vz x7)), some (.int (vz x8)), some (.int (vz 0)), some (.long ((Int64.ofNat 0))), none, none]) e108_155 (fun _ => rfl) (by decide) rfl ?_
            exact w_sub (A1 := [some (.ref 238), some (.int (vz i1)), some (.long l_2), none, some (.int (vz i3)), some (.long y5), none, some (.int (vz x7)), some (.int (vz x8)), some (.int (vz 0)), some (.long ((Int64.ofNat 0))), none, none]) (And.intro rfl (And.intro rfl (And.intro rfl (And.intro rfl (And.intro rfl (And.intro rfl (And.intro rfl (And.intro rfl (And.intro rfl trivial))))))))) ((ih.2.2.1) vh sc_ y5 x7 x8 0 ((Int64.ofNat 0)) hM (by omega) (by omega) (by omega) hi0q hi1 (by omega))
          ·
            refine w_ldA e108_141 (fun _ => rfl) rfl ?_
            refine w_get e108_142 e24 rfl ?_
            refine w_ldI e108_145 (fun _ => rfl) rfl ?_
            refine w_ldI e108_147 (fun _ => rfl) rfl ?_
            refine w_iadd e108_149 ?_
            have e31 := tm_l hM (a := 243) (n := 4320) rfl
            refine w_lld e108_150 e31 (by omega) (by omega) (by decide) ?_
            refine w_x e108_151 (fun _ => rfl) ?_
            refine w_stL (j := 10) (A1 := [some (.ref 238), some (.int (vz i1)), some (.long l_2), none, some (.int (vz i3)), some (.long y5), none, some (.int (vz x7)), some (.int (vz x8)), some (.int (vz 0)), some (.long ((al 243 (x7 + x8).toNat))), none, none]) e108_155 (fun _ => rfl) (by decide) rfl ?_
            exact w_sub (A1 := [some (.ref 238), some (.int (vz i1)), some (.long l_2), none, some (.int (vz i3)), some (.long y5), none, some (.int (vz x7)), some (.int (vz x8)), some (.int (vz 0)), some (.long ((al 243 (x7 + x8).toNat))), none, none]) (And.intro rfl (And.intro rfl (And.intro rfl (And.intro rfl (And.intro rfl (And.intro rfl (And.intro rfl (And.intro rfl (And.intro rfl trivial))))))))) ((ih.2.2.1) vh sc_ y5 x7 x8 0 ((al 243 (x7 + x8).toNat)) hM (by omega) (by omega) (by omega) hi0q hi1 (by omega))
        ·
          refine w_kI e108_129 ?_
          refine w_x e108_130 (fun _ => rfl) ?_
          refine w_stI (j := 9) (A1 := [some (.ref 238), some (.int (vz i1)), some (.long l_2), none, some (.int (vz i3)), some (.long y5), none, some (.int (vz x7)), some (.int (vz x8)), some (.int (vz 1)), none, none, none]) e108_134 (fun _ => rfl) (by decide) rfl ?_
          refine w_ldI e108_136 (fun _ => rfl) rfl ?_
          refine w_if e108_138 (by omega) (fun (h32 : 1 = 0) => ?_) (fun (h32 : 1 ≠ 0) => ?_)
          ·
            refine w_x e108_154 (fun _ => rfl) ?_
            refine w_stL (j := 10) (A1 := [some (.ref 238), some (.int (vz i1)), some (.long l_2), none, some (.int (vz i3)), some (.long y5), none, some (.int (vz x7)), some (.int (vz x8)), some (.int (vz 1)), some (.long ((Int64.ofNat 0))), none, none]) e108_155 (fun _ => rfl) (by decide) rfl ?_
            exact w_sub (A1 := [some (.ref 238), some (.int (vz i1)), some (.long l_2), none, some (.int (vz i3)), some (.long y5), none, some (.int (vz x7)), some (.int (vz x8)), some (.int (vz 1)), some (.long ((Int64.ofNat 0))), none, none]) (And.intro rfl (And.intro rfl (And.intro rfl (And.intro rfl (And.intro rfl (And.intro rfl (And.intro rfl (And.intro rfl (And.intro rfl trivial))))))))) ((ih.2.2.1) vh sc_ y5 x7 x8 1 ((Int64.ofNat 0)) hM (by omega) (by omega) (by omega) hi0q hi1 (by omega))
          ·
            refine w_ldA e108_141 (fun _ => rfl) rfl ?_
            refine w_get e108_142 e24 rfl ?_
            refine w_ldI e108_145 (fun _ => rfl) rfl ?_
            refine w_ldI e108_147 (fun _ => rfl) rfl ?_
            refine w_iadd e108_149 ?_
            have e33 := tm_l hM (a := 243) (n := 4320) rfl
            refine w_lld e108_150 e33 (by omega) (by omega) (by decide) ?_
            refine w_x e108_151 (fun _ => rfl) ?_
            refine w_stL (j := 10) (A1 := [some (.ref 238), some (.int (vz i1)), some (.long l_2), none, some (.int (vz i3)), some (.long y5), none, some (.int (vz x7)), some (.int (vz x8)), some (.int (vz 1)), some (.long ((al 243 (x7 + x8).toNat))), none, none]) e108_155 (fun _ => rfl) (by decide) rfl ?_
            exact w_sub (A1 := [some (.ref 238), some (.int (vz i1)), some (.long l_2), none, some (.int (vz i3)), some (.long y5), none, some (.int (vz x7)), some (.int (vz x8)), some (.int (vz 1)), some (.long ((al 243 (x7 + x8).toNat))), none, none]) (And.intro rfl (And.intro rfl (And.intro rfl (And.intro rfl (And.intro rfl (And.intro rfl (And.intro rfl (And.intro rfl (And.intro rfl trivial))))))))) ((ih.2.2.1) vh sc_ y5 x7 x8 1 ((al 243 (x7 + x8).toNat)) hM (by omega) (by omega) (by omega) hi0q hi1 (by omega))
      ·
        refine w_ldA e108_96 (fun _ => rfl) rfl ?_
        refine w_get e108_97 e24 rfl ?_
        refine w_ldI e108_100 (fun _ => rfl) rfl ?_
        refine w_ldI e108_102 (fun _ => rfl) rfl ?_
        refine w_iadd e108_104 ?_
        have e34 := tm_l hM (a := 244) (n := 4320) rfl
        refine w_lld e108_105 e34 (by omega) (by omega) (by decide) ?_
        refine w_ldL e108_106 (fun _ => rfl) rfl ?_
        refine w_lcmp e108_108 (fun q35 (h36 : -1 ≤ q35 ∧ q35 ≤ 1) h37 h38 => ?_)
        have hc39 : (q35 = 0 ↔ ((al 244 (x7 + x8).toNat)).toInt = y5.toInt) ∧ (q35 < 0 ↔ ((al 244 (x7 + x8).toNat)).toInt < y5.toInt) := lc_i h37 h38
        refine w_if e108_109 (by omega) (fun (h40 : q35 = 0) => ?_) (fun (h40 : q35 ≠ 0) => ?_)
        ·
          refine w_ldI e108_118 (fun _ => rfl) rfl ?_
          refine w_ldA e108_120 (fun _ => rfl) rfl ?_
          refine w_get e108_121 e24 rfl ?_
          refine w_ldI e108_124 (fun _ => rfl) rfl ?_
          refine w_ald e108_125 e25 (by omega) (by omega) (by decide) ?_
          show vm_Wp _ _ _ 126 _ [.int (vz (ai 242 (i1).toNat)), .int (vz x8)] _ _
          have hk41 := hK.1 (i1).toNat
          refine w_ic e108_126 (by omega) (tm_r hM 242 (i1).toNat) (fun (h42 : ai 242 (i1).toNat ≤ x8) => ?_) (fun (h42 : x8 < ai 242 (i1).toNat) => ?_)
          ·
            refine w_kI e108_133 ?_
            refine w_stI (j := 9) (A1 := [some (.ref 238), some (.int (vz i1)), some (.long l_2), none, some (.int (vz i3)), some (.long y5), none, some (.int (vz x7)), some (.int (vz x8)), some (.int (vz 0)), none, none, none]) e108_134 (fun _ => rfl) (by decide) rfl ?_
            refine w_ldI e108_136 (fun _ => rfl) rfl ?_
            refine w_if e108_138 (by omega) (fun (h43 : 0 = 0) => ?_) (fun (h43 : 0 ≠ 0) => ?_)
            ·
              refine w_x e108_154 (fun _ => rfl) ?_
              refine w_stL (j := 10) (A1 := [some (.ref 238), some (.int (vz i1)), some (.long l_2), none, some (.int (vz i3)), some (.long y5), none, some (.int (vz x7)), some (.int (vz x8)), some (.int (vz 0)), some (.long ((Int64.ofNat 0))), none, none]) e108_155 (fun _ => rfl) (by decide) rfl ?_
              exact w_sub (A1 := [some (.ref 238), some (.int (vz i1)), some (.long l_2), none, some (.int (vz i3)), some (.long y5), none, some (.int (vz x7)), some (.int (vz x8)), some (.int (vz 0)), some (.long ((Int64.ofNat 0))), none, none]) (And.intro rfl (And.intro rfl (And.intro rfl (And.intro rfl (And.intro rfl (And.intro rfl (And.intro rfl (And.intro rfl (And.intro rfl trivial))))))))) ((ih.2.2.1) vh sc_ y5 x7 x8 0 ((Int64.ofNat 0)) hM (by omega) (by omega) (by omega) hi0q hi1 (by omega))
            ·
              refine w_ldA e108_141 (fun _ => rfl) rfl ?_
              refine w_get e108_142 e24 rfl ?_
              refine w_ldI e108_145 (fun _ => rfl) rfl ?_
              refine w_ldI e108_147 (fun _ => rfl) rfl ?_
              refine w_iadd e108_149 ?_
              have e44 := tm_l hM (a := 243) (n := 4320) rfl
              refine w_lld e108_150 e44 (by omega) (by omega) (by decide) ?_
              refine w_x e108_151 (fun _ => rfl) ?_
              refine w_stL (j := 10) (A1 := [some (.ref 238), some (.int (vz i1)), some (.long l_2), none, some (.int (vz i3)), some (.long y5), none, some (.int (vz x7)), some (.int (vz x8)), some (.int (vz 0)), some (.long ((al 243 (x7 + x8).toNat))), none, none]) e108_155 (fun _ => rfl) (by decide) rfl ?_
              exact w_sub (A1 := [some (.ref 238), some (.int (vz i1)), some (.long l_2), none, some (.int (vz i3)), some (.long y5), none, some (.int (vz x7)), some (.int (vz x8)), some (.int (vz 0)), some (.long ((al 243 (x7 + x8).toNat))), none, none]) (And.intro rfl (And.intro rfl (And.intro rfl (And.intro rfl (And.intro rfl (And.intro rfl (And.intro rfl (And.intro rfl (And.intro rfl trivial))))))))) ((ih.2.2.1) vh sc_ y5 x7 x8 0 ((al 243 (x7 + x8).toNat)) hM (by omega) (by omega) (by omega) hi0q hi1 (by omega))
          ·
            refine w_kI e108_129 ?_
            refine w_x e108_130 (fun _ => rfl) ?_
            refine w_stI (j := 9) (A1 := [some (.ref 238), some (.int (vz i1)), some (.long l_2), none, some (.int (vz i3)), some (.long y5), none, some (.int (vz x7)), some (.int (vz x8)), some (.int (vz 1)), none, none, none]) e108_134 (fun _ => rfl) (by decide) rfl ?_
            refine w_ldI e108_136 (fun _ => rfl) rfl ?_
            refine w_if e108_138 (by omega) (fun (h45 : 1 = 0) => ?_) (fun (h45 : 1 ≠ 0) => ?_)
            ·
              refine w_x e108_154 (fun _ => rfl) ?_
              refine w_stL (j := 10) (A1 := [some (.ref 238), some (.int (vz i1)), some (.long l_2), none, some (.int (vz i3)), some (.long y5), none, some (.int (vz x7)), some (.int (vz x8)), some (.int (vz 1)), some (.long ((Int64.ofNat 0))), none, none]) e108_155 (fun _ => rfl) (by decide) rfl ?_
              exact w_sub (A1 := [some (.ref 238), some (.int (vz i1)), some (.long l_2), none, some (.int (vz i3)), some (.long y5), none, some (.int (vz x7)), some (.int (vz x8)), some (.int (vz 1)), some (.long ((Int64.ofNat 0))), none, none]) (And.intro rfl (And.intro rfl (And.intro rfl (And.intro rfl (And.intro rfl (And.intro rfl (And.intro rfl (And.intro rfl (And.intro rfl trivial))))))))) ((ih.2.2.1) vh sc_ y5 x7 x8 1 ((Int64.ofNat 0)) hM (by omega) (by omega) (by omega) hi0q hi1 (by omega))
            ·
              refine w_ldA e108_141 (fun _ => rfl) rfl ?_
              refine w_get e108_142 e24 rfl ?_
              refine w_ldI e108_145 (fun _ => rfl) rfl ?_
              refine w_ldI e108_147 (fun _ => rfl) rfl ?_
              refine w_iadd e108_149 ?_
              have e46 := tm_l hM (a := 243) (n := 4320) rfl
              refine w_lld e108_150 e46 (by omega) (by omega) (by decide) ?_
              refine w_x e108_151 (fun _ => rfl) ?_
              refine w_stL (j := 10) (A1 := [some (.ref 238), some (.int (vz i1)), some (.long l_2), none, some (.int (vz i3)), some (.long y5), none, some (.int (vz x7)), some (.int (vz x8)), some (.int (vz 1)), some (.long ((al 243 (x7 + x8).toNat))), none, none]) e108_155 (fun _ => rfl) (by decide) rfl ?_
              exact w_sub (A1 := [some (.ref 238), some (.int (vz i1)), some (.long l_2), none, some (.int (vz i3)), some (.long y5), none, some (.int (vz x7)), some (.int (vz x8)), some (.int (vz 1)), some (.long ((al 243 (x7 + x8).toNat))), none, none]) (And.intro rfl (And.intro rfl (And.intro rfl (And.intro rfl (And.intro rfl (And.intro rfl (And.intro rfl (And.intro rfl (And.intro rfl trivial))))))))) ((ih.2.2.1) vh sc_ y5 x7 x8 1 ((al 243 (x7 + x8).toNat)) hM (by omega) (by omega) (by omega) hi0q hi1 (by omega))
        ·
          refine w_iinc (A1 := [some (.ref 238), some (.int (vz i1)), some (.long l_2), none, some (.int (vz i3)), some (.long y5), none, some (.int (vz x7)), some (.int (vz (x8 + 1))), none, none, none, none]) e108_112 rfl (by decide) rfl ?_
          refine w_x e108_115 (fun _ => rfl) ?_
          exact w_sub (A1 := [some (.ref 238), some (.int (vz i1)), some (.long l_2), none, some (.int (vz i3)), some (.long y5), none, some (.int (vz x7)), some (.int (vz (x8 + 1))), none, none, none, none]) (And.intro rfl (And.intro rfl (And.intro rfl (And.intro rfl (And.intro rfl (And.intro rfl (And.intro rfl trivial))))))) ((ih.2.1) vh sc_ y5 x7 (x8 + 1) hM (by omega) (by omega) hi0q hi1 (by omega))
    ·
      intro vh sc_ y5 x7 x8 x9 y10 hM hx7 hx8 hx9 hi0q hi1 hN
      have hs1 : sc_ 1 = sc 1 := by rw [hi0q, u1_o (by decide)]
      have hs4 : sc_ 4 = sc 4 := by rw [hi0q, u1_o (by decide)]
      have hcg := hK.1 (i1).toNat
      refine w_ldL e108_157 (fun _ => rfl) rfl ?_
      refine w_x e108_158 (fun _ => rfl) ?_
      refine w_lcmp e108_161 (fun q47 (h48 : -1 ≤ q47 ∧ q47 ≤ 1) h49 h50 => ?_)
      have hc51 : (q47 = 0 ↔ l_2.toInt = ((Int64.ofNat 18446744073575333888)).toInt) ∧ (q47 < 0 ↔ l_2.toInt < ((Int64.ofNat 18446744073575333888)).toInt) := lc_i h49 h50
      have hc52 : (Int64.ofNat 18446744073575333888).toInt = -134217728 := rfl
      refine w_if e108_162 (by omega) (fun (h53 : q47 < 0) => ?_) (fun (h53 : 0 ≤ q47) => ?_)
      ·
        refine w_kI e108_213 ?_
        exact w_rz e108_214 rfl (by omega) ⟨sc_, ai, al, 0, ⟨by omega, Or.inl ⟨hi0q, fun h9 => absurd h9.1 (by decide)⟩⟩, rfl, hK, hM⟩
      ·
        refine w_ldL e108_165 (fun _ => rfl) rfl ?_
        refine w_x e108_166 (fun _ => rfl) ?_
        refine w_lcmp e108_169 (fun q54 (h55 : -1 ≤ q54 ∧ q54 ≤ 1) h56 h57 => ?_)
        have hc58 : (q54 = 0 ↔ l_2.toInt = ((Int64.ofNat 134217728)).toInt) ∧ (q54 < 0 ↔ l_2.toInt < ((Int64.ofNat 134217728)).toInt) := lc_i h56 h57
        have hc59 : (Int64.ofNat 134217728).toInt = 134217728 := rfl
        refine w_if e108_170 (by omega) (fun (h60 : 0 < q54) => ?_) (fun (h60 : q54 ≤ 0) => ?_)
        ·
          refine w_kI e108_213 ?_
          exact w_rz e108_214 rfl (by omega) ⟨sc_, ai, al, 0, ⟨by omega, Or.inl ⟨hi0q, fun h9 => absurd h9.1 (by decide)⟩⟩, rfl, hK, hM⟩
        ·
          refine w_ldL e108_173 (fun _ => rfl) rfl ?_
          refine w_ldL e108_175 (fun _ => rfl) rfl ?_
          refine w_x e108_176 (fun _ => rfl) ?_
          refine w_x e108_177 (fun _ => rfl) ?_
          refine w_lcmp e108_180 (fun q61 (h62 : -1 ≤ q61 ∧ q61 ≤ 1) h63 h64 => ?_)
          have hc65 : (q61 = 0 ↔ ((y10 + l_2)).toInt = ((Int64.ofNat 18446744073642442752)).toInt) ∧ (q61 < 0 ↔ ((y10 + l_2)).toInt < ((Int64.ofNat 18446744073642442752)).toInt) := lc_i h63 h64
          have hc66 : (Int64.ofNat 18446744073642442752).toInt = -67108864 := rfl
          refine w_if e108_181 (by omega) (fun (h67 : q61 < 0) => ?_) (fun (h67 : 0 ≤ q61) => ?_)
          ·
            refine w_kI e108_213 ?_
            exact w_rz e108_214 rfl (by omega) ⟨sc_, ai, al, 0, ⟨by omega, Or.inl ⟨hi0q, fun h9 => absurd h9.1 (by decide)⟩⟩, rfl, hK, hM⟩
          ·
            refine w_ldL e108_184 (fun _ => rfl) rfl ?_
            refine w_ldL e108_186 (fun _ => rfl) rfl ?_
            refine w_x e108_187 (fun _ => rfl) ?_
            refine w_x e108_188 (fun _ => rfl) ?_
            refine w_lcmp e108_191 (fun q68 (h69 : -1 ≤ q68 ∧ q68 ≤ 1) h70 h71 => ?_)
            have hc72 : (q68 = 0 ↔ ((y10 + l_2)).toInt = ((Int64.ofNat 67108864)).toInt) ∧ (q68 < 0 ↔ ((y10 + l_2)).toInt < ((Int64.ofNat 67108864)).toInt) := lc_i h70 h71
            have hc73 : (Int64.ofNat 67108864).toInt = 67108864 := rfl
            refine w_if e108_192 (by omega) (fun (h74 : 0 < q68) => ?_) (fun (h74 : q68 ≤ 0) => ?_)
            ·
              refine w_kI e108_213 ?_
              exact w_rz e108_214 rfl (by omega) ⟨sc_, ai, al, 0, ⟨by omega, Or.inl ⟨hi0q, fun h9 => absurd h9.1 (by decide)⟩⟩, rfl, hK, hM⟩
            ·
              refine w_ldI e108_195 (fun _ => rfl) rfl ?_
              refine w_if e108_197 (by omega) (fun (h75 : x9 ≠ 0) => ?_) (fun (h75 : x9 = 0) => ?_)
              ·
                exact w_sub (A1 := [some (.ref 238), some (.int (vz i1)), some (.long l_2), none, some (.int (vz i3)), some (.long y5), none, some (.int (vz x7)), some (.int (vz x8)), some (.int (vz x9)), some (.long y10), none, none]) (And.intro rfl (And.intro rfl (And.intro rfl (And.intro rfl (And.intro rfl (And.intro rfl (And.intro rfl (And.intro rfl (And.intro rfl trivial))))))))) ((ih.2.2.2.1) vh sc_ y5 x7 x8 x9 y10 hM (by omega) (by omega) (by omega) hi0q hi1 (by omega) (by omega))
              ·
                refine w_ldL e108_200 (fun _ => rfl) rfl ?_
                refine w_x e108_201 (fun _ => rfl) ?_
                refine w_lcmp e108_202 (fun q76 (h77 : -1 ≤ q76 ∧ q76 ≤ 1) h78 h79 => ?_)
                have hc80 : (q76 = 0 ↔ l_2.toInt = ((Int64.ofNat 0)).toInt) ∧ (q76 < 0 ↔ l_2.toInt < ((Int64.ofNat 0)).toInt) := lc_i h78 h79
                have hc81 : (Int64.ofNat 0).toInt = 0 := rfl
                refine w_if e108_203 (by omega) (fun (h82 : q76 = 0) => ?_) (fun (h82 : q76 ≠ 0) => ?_)
                ·
                  exact w_sub (A1 := [some (.ref 238), some (.int (vz i1)), some (.long l_2), none, some (.int (vz i3)), some (.long y5), none, some (.int (vz x7)), some (.int (vz x8)), some (.int (vz x9)), some (.long y10), none, none]) (And.intro rfl (And.intro rfl (And.intro rfl (And.intro rfl (And.intro rfl (And.intro rfl (And.intro rfl (And.intro rfl (And.intro rfl trivial))))))))) ((ih.2.2.2.1) vh sc_ y5 x7 x8 x9 y10 hM (by omega) (by omega) (by omega) hi0q hi1 (by omega) (by omega))
                ·
                  refine w_ldI e108_206 (fun _ => rfl) rfl ?_
                  refine w_kB e108_208 rfl ?_
                  refine w_ic e108_210 (by omega) (by omega) (fun (h83 : x8 ≠ 60) => ?_) (fun (h83 : x8 = 60) => ?_)
                  ·
                    exact w_sub (A1 := [some (.ref 238), some (.int (vz i1)), some (.long l_2), none, some (.int (vz i3)), some (.long y5), none, some (.int (vz x7)), some (.int (vz x8)), some (.int (vz x9)), some (.long y10), none, none]) (And.intro rfl (And.intro rfl (And.intro rfl (And.intro rfl (And.intro rfl (And.intro rfl (And.intro rfl (And.intro rfl (And.intro rfl trivial))))))))) ((ih.2.2.2.1) vh sc_ y5 x7 x8 x9 y10 hM (by omega) (by omega) (by omega) hi0q hi1 (by omega) (by omega))
                  ·
                    refine w_kI e108_213 ?_
                    exact w_rz e108_214 rfl (by omega) ⟨sc_, ai, al, 0, ⟨by omega, Or.inl ⟨hi0q, fun h9 => absurd h9.1 (by decide)⟩⟩, rfl, hK, hM⟩
    ·
      intro vh sc_ y5 x7 x8 x9 y10 hM hx7 hx8 hx9 hi0q hi1 hi2 hN
      have hs1 : sc_ 1 = sc 1 := by rw [hi0q, u1_o (by decide)]
      have hs4 : sc_ 4 = sc 4 := by rw [hi0q, u1_o (by decide)]
      have hcg := hK.1 (i1).toNat
      refine w_ldL e108_215 (fun _ => rfl) rfl ?_
      refine w_x e108_216 (fun _ => rfl) ?_
      refine w_lcmp e108_217 (fun q84 (h85 : -1 ≤ q84 ∧ q84 ≤ 1) h86 h87 => ?_)
      have hc88 : (q84 = 0 ↔ l_2.toInt = ((Int64.ofNat 0)).toInt) ∧ (q84 < 0 ↔ l_2.toInt < ((Int64.ofNat 0)).toInt) := lc_i h86 h87
      have hc89 : (Int64.ofNat 0).toInt = 0 := rfl
      refine w_if e108_218 (by omega) (fun (h90 : q84 ≠ 0) => ?_) (fun (h90 : q84 = 0) => ?_)
      ·
        refine w_ldA e108_223 (fun _ => rfl) rfl ?_
        have e91 := tm_o hM
        refine w_get e108_224 e91 rfl ?_
        refine w_ldI e108_227 (fun _ => rfl) rfl ?_
        have e92 := tm_z hM (a := 241) (n := 16) rfl
        refine w_zldO e108_228 e92 (by omega) (by omega) (by decide) (fun q93 h94 h95 => ?_)
        refine w_if e108_229 h94 (fun (h96 : q93 = 0) => ?_) (fun (h96 : q93 ≠ 0) => ?_)
        ·
          exact w_sub (A1 := [some (.ref 238), some (.int (vz i1)), some (.long l_2), none, some (.int (vz i3)), some (.long y5), none, some (.int (vz x7)), some (.int (vz x8)), some (.int (vz x9)), some (.long y10), none, none]) (And.intro rfl (And.intro rfl (And.intro rfl (And.intro rfl (And.intro rfl (And.intro rfl (And.intro rfl (And.intro rfl (And.intro rfl trivial))))))))) ((ih.2.2.2.2.1) vh sc_ y5 x7 x8 x9 y10 hM (by omega) (by omega) (by omega) (Or.inl ⟨hi0q, by rw [h95, show q93 = 0 by omega]; rfl⟩) hi1 (by omega) (by omega) (by omega))
        ·
          refine w_ldA e108_232 (fun _ => rfl) rfl ?_
          refine w_cv e108_233 (by decide) rfl e91 rfl (Nat.le_of_ble_eq_true rfl) (Nat.le_of_ble_eq_true rfl) (Nat.le_of_ble_eq_true rfl) (by decide) (by decide) (c101 hM hK) (fun o97 v98 hq99 => ?_)
          obtain ⟨hM100, rfl⟩ := hq99
          exact w_sub (A1 := [some (.ref 238), some (.int (vz i1)), some (.long l_2), none, some (.int (vz i3)), some (.long y5), none, some (.int (vz x7)), some (.int (vz x8)), some (.int (vz x9)), some (.long y10), none, none]) (And.intro rfl (And.intro rfl (And.intro rfl (And.intro rfl (And.intro rfl (And.intro rfl (And.intro rfl (And.intro rfl (And.intro rfl trivial))))))))) ((ih.2.2.2.2.1) v98 ((fgS sc_)) y5 x7 x8 x9 y10 hM100 (by omega) (by omega) (by omega) (Or.inr ⟨by rw [hi0q], by rw [h95]; exact fun h9 => absurd ((vz_inj h94 (by decide : -2147483648 ≤ (0 : Int) ∧ (0 : Int) < 2147483648)).mp (h9.trans rfl)) (by omega)⟩) hi1 (by omega) (by omega) (by omega))
      ·
        refine w_kI e108_221 ?_
        exact w_rz e108_222 rfl (by omega) ⟨sc_, ai, al, 1, ⟨by omega, Or.inl ⟨hi0q, fun h9 => h9.2.1 (by omega)⟩⟩, rfl, hK, hM⟩
    ·
      intro vh sc_ y5 x7 x8 x9 y10 hM hx7 hx8 hx9 hi0q hi1 hi2 hi3 hN
      have hsx := tf_s hi0q
      have hcg := hK.1 (i1).toNat
      refine w_ldI e108_236 (fun _ => rfl) rfl ?_
      refine w_if e108_238 (by omega) (fun (h101 : x9 ≠ 0) => ?_) (fun (h101 : x9 = 0) => ?_)
      ·
        refine w_ldL e108_277 (fun _ => rfl) rfl ?_
        refine w_ldL e108_279 (fun _ => rfl) rfl ?_
        refine w_x e108_280 (fun _ => rfl) ?_
        refine w_x e108_281 (fun _ => rfl) ?_
        refine w_lcmp e108_282 (fun q102 (h103 : -1 ≤ q102 ∧ q102 ≤ 1) h104 h105 => ?_)
        have hc106 : (q102 = 0 ↔ ((y10 + l_2)).toInt = ((Int64.ofNat 0)).toInt) ∧ (q102 < 0 ↔ ((y10 + l_2)).toInt < ((Int64.ofNat 0)).toInt) := lc_i h104 h105
        have hc107 : (Int64.ofNat 0).toInt = 0 := rfl
        refine w_if e108_283 (by omega) (fun (h108 : q102 ≠ 0) => ?_) (fun (h108 : q102 = 0) => ?_)
        ·
          refine w_ldA e108_366 (fun _ => rfl) rfl ?_
          have e109 := tm_o hM
          refine w_get e108_367 e109 rfl ?_
          refine w_ldI e108_370 (fun _ => rfl) rfl ?_
          refine w_ldI e108_372 (fun _ => rfl) rfl ?_
          refine w_iadd e108_374 ?_
          refine w_ldL e108_375 (fun _ => rfl) rfl ?_
          refine w_ldL e108_377 (fun _ => rfl) rfl ?_
          refine w_x e108_378 (fun _ => rfl) ?_
          have e110 := tm_l hM (a := 243) (n := 4320) rfl
          refine w_lst e108_379 e110 (by omega) (by omega) (by decide) (fun v113 b111 h112 => ?_)
          obtain ⟨al114, hd116, hM115⟩ : ∃ z, z = u2 al 243 (x7 + x8).toNat ((y10 + l_2)) ∧ tm sc_ ai z az v0 v113 := ⟨_, rfl, tm_pl hM rfl b111 h112⟩
          refine w_ldA e108_380 (fun _ => rfl) rfl ?_
          refine w_ldI e108_381 (fun _ => rfl) rfl ?_
          have e117 := tm_o hM115
          refine w_cv e108_382 (by decide) rfl e117 rfl (Nat.le_of_ble_eq_true rfl) (Nat.le_of_ble_eq_true rfl) (Nat.le_of_ble_eq_true rfl) (by decide) (by decide) (r80c hM115 hK (by omega) (by omega)) (fun o118 v119 hq120 => ?_)
          obtain ⟨⟨al121, ⟨hf122, hp123, hs124⟩, hM125⟩, rfl⟩ := hq120
          refine w_kI e108_385 ?_
          exact w_rz e108_386 rfl (by omega) ⟨sc_, ai, al121, 1, ⟨by omega, (by rcases hi0q with ⟨a9, b9⟩ | ⟨a9, b9⟩; exact Or.inl ⟨a9, fun h9 => h9.2.2 b9⟩; exact Or.inr ⟨a9, hi1, rfl, by omega, b9⟩)⟩, rfl, hK, hM125⟩
        ·
          refine w_ldI e108_286 (fun _ => rfl) rfl ?_
          refine w_stI (j := 12) (A1 := [some (.ref 238), some (.int (vz i1)), some (.long l_2), none, some (.int (vz i3)), some (.long y5), none, some (.int (vz x7)), some (.int (vz x8)), some (.int (vz x9)), some (.long y10), none, some (.int (vz x8))]) e108_288 (fun _ => rfl) (by decide) rfl ?_
          exact w_sub (A1 := [some (.ref 238), some (.int (vz i1)), some (.long l_2), none, some (.int (vz i3)), none, none, some (.int (vz x7)), none, none, none, none, some (.int (vz x8))]) (And.intro rfl (And.intro rfl (And.intro rfl (And.intro rfl (And.intro rfl (And.intro rfl trivial)))))) ((ih.2.2.2.2.2) vh sc_ al x7 x8 hM (by omega) (by omega) hi0q hi1 hi2 (by omega))
      ·
        refine w_ldA e108_241 (fun _ => rfl) rfl ?_
        have e126 := tm_o hM
        refine w_get e108_242 e126 rfl ?_
        refine w_ldI e108_245 (fun _ => rfl) rfl ?_
        refine w_ldI e108_247 (fun _ => rfl) rfl ?_
        refine w_iadd e108_249 ?_
        refine w_ldL e108_250 (fun _ => rfl) rfl ?_
        have e127 := tm_l hM (a := 243) (n := 4320) rfl
        refine w_lst e108_251 e127 (by omega) (by omega) (by decide) (fun v130 b128 h129 => ?_)
        obtain ⟨al131, hd133, hM132⟩ : ∃ z, z = u2 al 243 (x7 + x8).toNat l_2 ∧ tm sc_ ai z az v0 v130 := ⟨_, rfl, tm_pl hM rfl b128 h129⟩
        refine w_ldA e108_252 (fun _ => rfl) rfl ?_
        have e134 := tm_o hM132
        refine w_get e108_253 e134 rfl ?_
        refine w_ldI e108_256 (fun _ => rfl) rfl ?_
        refine w_ldI e108_258 (fun _ => rfl) rfl ?_
        refine w_iadd e108_260 ?_
        refine w_ldL e108_261 (fun _ => rfl) rfl ?_
        have e135 := tm_l hM132 (a := 244) (n := 4320) rfl
        refine w_lst e108_263 e135 (by omega) (by omega) (by decide) (fun v138 b136 h137 => ?_)
        obtain ⟨al139, hd141, hM140⟩ : ∃ z, z = u2 al131 244 (x7 + x8).toNat y5 ∧ tm sc_ ai z az v0 v138 := ⟨_, rfl, tm_pl hM132 rfl b136 h137⟩
        refine w_ldA e108_264 (fun _ => rfl) rfl ?_
        have e142 := tm_o hM140
        refine w_get e108_265 e142 rfl ?_
        refine w_ldI e108_268 (fun _ => rfl) rfl ?_
        refine w_x e108_269 (fun _ => rfl) ?_
        have e143 := tm_i hM140 (a := 242) (n := 72) rfl
        refine w_ald e108_270 e143 (by omega) (by omega) (by decide) ?_
        show vm_Wp _ _ _ 271 _ [.int (vz (ai 242 (i1).toNat)), .int (vz i1), .ref 242] _ _
        have hk144 := hK.1 (i1).toNat
        refine w_kI e108_271 ?_
        refine w_iadd e108_272 ?_
        refine w_ast e108_273 e143 (by omega) (by omega) (by decide) (by decide) (fun v147 b145 h146 => ?_)
        obtain ⟨ai148, hd150, hM149⟩ : ∃ z, z = u2 ai 242 (i1).toNat ((ai 242 (i1).toNat) + 1) ∧ tm sc_ z al139 az v0 v147 := ⟨_, rfl, tm_pi hM140 rfl (by omega) b145 h146⟩
        have hK151 : tmok ai148 := by rw [hd150]; exact tmok_c hK (by omega)
        refine w_x e108_274 (fun _ => rfl) ?_
        refine w_ldA e108_380 (fun _ => rfl) rfl ?_
        refine w_ldI e108_381 (fun _ => rfl) rfl ?_
        have e152 := tm_o hM149
        refine w_cv e108_382 (by decide) rfl e152 rfl (Nat.le_of_ble_eq_true rfl) (Nat.le_of_ble_eq_true rfl) (Nat.le_of_ble_eq_true rfl) (by decide) (by decide) (r80c hM149 hK151 (by omega) (by omega)) (fun o153 v154 hq155 => ?_)
        obtain ⟨⟨al156, ⟨hf157, hp158, hs159⟩, hM160⟩, rfl⟩ := hq155
        refine w_kI e108_385 ?_
        exact w_rz e108_386 rfl (by omega) ⟨sc_, ai148, al156, 1, ⟨by omega, (by rcases hi0q with ⟨a9, b9⟩ | ⟨a9, b9⟩; exact Or.inl ⟨a9, fun h9 => h9.2.2 b9⟩; exact Or.inr ⟨a9, hi1, rfl, by omega, b9⟩)⟩, rfl, hK151, hM160⟩
    ·
      intro vh sc_ al_ x7 x12 hM hx7 hx12 hi0q hi1 hi2 hN
      have hsx := tf_s hi0q
      have hcg := hK.1 (i1).toNat
      refine w_ldI e108_290 (fun _ => rfl) rfl ?_
      refine w_kI e108_292 ?_
      refine w_iadd e108_293 ?_
      refine w_ldA e108_294 (fun _ => rfl) rfl ?_
      have e161 := tm_o hM
      refine w_get e108_295 e161 rfl ?_
      refine w_ldI e108_298 (fun _ => rfl) rfl ?_
      have e162 := tm_i hM (a := 242) (n := 72) rfl
      refine w_ald e108_299 e162 (by omega) (by omega) (by decide) ?_
      show vm_Wp _ _ _ 300 _ [.int (vz (ai 242 (i1).toNat)), .int (vz (x12 + 1))] _ _
      have hk163 := hK.1 (i1).toNat
      refine w_ic e108_300 (by omega) (tm_r hM 242 (i1).toNat) (fun (h164 : ai 242 (i1).toNat ≤ x12 + 1) => ?_) (fun (h164 : x12 + 1 < ai 242 (i1).toNat) => ?_)
      ·
        refine w_ldA e108_353 (fun _ => rfl) rfl ?_
        refine w_get e108_354 e161 rfl ?_
        refine w_ldI e108_357 (fun _ => rfl) rfl ?_
        refine w_x e108_358 (fun _ => rfl) ?_
        refine w_ald e108_359 e162 (by omega) (by omega) (by decide) ?_
        show vm_Wp _ _ _ 360 _ [.int (vz (ai 242 (i1).toNat)), .int (vz i1), .ref 242] _ _
        have hk165 := hK.1 (i1).toNat
        refine w_kI e108_360 ?_
        refine w_isub e108_361 ?_
        refine w_ast e108_362 e162 (by omega) (by omega) (by decide) (by decide) (fun v168 b166 h167 => ?_)
        obtain ⟨ai169, hd171, hM170⟩ : ∃ z, z = u2 ai 242 (i1).toNat ((ai 242 (i1).toNat) - 1) ∧ tm sc_ z al_ az v0 v168 := ⟨_, rfl, tm_pi hM rfl (by omega) b166 h167⟩
        have hK172 : tmok ai169 := by rw [hd171]; exact tmok_c hK (by omega)
        refine w_x e108_363 (fun _ => rfl) ?_
        refine w_ldA e108_380 (fun _ => rfl) rfl ?_
        refine w_ldI e108_381 (fun _ => rfl) rfl ?_
        have e173 := tm_o hM170
        refine w_cv e108_382 (by decide) rfl e173 rfl (Nat.le_of_ble_eq_true rfl) (Nat.le_of_ble_eq_true rfl) (Nat.le_of_ble_eq_true rfl) (by decide) (by decide) (r80c hM170 hK172 (by omega) (by omega)) (fun o174 v175 hq176 => ?_)
        obtain ⟨⟨al177, ⟨hf178, hp179, hs180⟩, hM181⟩, rfl⟩ := hq176
        refine w_kI e108_385 ?_
        exact w_rz e108_386 rfl (by omega) ⟨sc_, ai169, al177, 1, ⟨by omega, (by rcases hi0q with ⟨a9, b9⟩ | ⟨a9, b9⟩; exact Or.inl ⟨a9, fun h9 => h9.2.2 b9⟩; exact Or.inr ⟨a9, hi1, rfl, by omega, b9⟩)⟩, rfl, hK172, hM181⟩
      ·
        refine w_ldA e108_303 (fun _ => rfl) rfl ?_
        refine w_get e108_304 e161 rfl ?_
        refine w_ldI e108_307 (fun _ => rfl) rfl ?_
        refine w_ldI e108_309 (fun _ => rfl) rfl ?_
        refine w_iadd e108_311 ?_
        refine w_ldA e108_312 (fun _ => rfl) rfl ?_
        refine w_get e108_313 e161 rfl ?_
        refine w_ldI e108_316 (fun _ => rfl) rfl ?_
        refine w_ldI e108_318 (fun _ => rfl) rfl ?_
        refine w_iadd e108_320 ?_
        refine w_kI e108_321 ?_
        refine w_iadd e108_322 ?_
        have e182 := tm_l hM (a := 243) (n := 4320) rfl
        refine w_lld e108_323 e182 (by omega) (by omega) (by decide) ?_
        refine w_lst e108_324 e182 (by omega) (by omega) (by decide) (fun v185 b183 h184 => ?_)
        obtain ⟨al186, hd188, hM187⟩ : ∃ z, z = u2 al_ 243 (x7 + x12).toNat ((al_ 243 ((x7 + x12) + 1).toNat)) ∧ tm sc_ ai z az v0 v185 := ⟨_, rfl, tm_pl hM rfl b183 h184⟩
        refine w_ldA e108_325 (fun _ => rfl) rfl ?_
        have e189 := tm_o hM187
        refine w_get e108_326 e189 rfl ?_
        refine w_ldI e108_329 (fun _ => rfl) rfl ?_
        refine w_ldI e108_331 (fun _ => rfl) rfl ?_
        refine w_iadd e108_333 ?_
        refine w_ldA e108_334 (fun _ => rfl) rfl ?_
        refine w_get e108_335 e189 rfl ?_
        refine w_ldI e108_338 (fun _ => rfl) rfl ?_
        refine w_ldI e108_340 (fun _ => rfl) rfl ?_
        refine w_iadd e108_342 ?_
        refine w_kI e108_343 ?_
        refine w_iadd e108_344 ?_
        have e190 := tm_l hM187 (a := 244) (n := 4320) rfl
        refine w_lld e108_345 e190 (by omega) (by omega) (by decide) ?_
        refine w_lst e108_346 e190 (by omega) (by omega) (by decide) (fun v193 b191 h192 => ?_)
        obtain ⟨al194, hd196, hM195⟩ : ∃ z, z = u2 al186 244 (x7 + x12).toNat ((al186 244 ((x7 + x12) + 1).toNat)) ∧ tm sc_ ai z az v0 v193 := ⟨_, rfl, tm_pl hM187 rfl b191 h192⟩
        refine w_iinc (A1 := [some (.ref 238), some (.int (vz i1)), some (.long l_2), none, some (.int (vz i3)), none, none, some (.int (vz x7)), none, none, none, none, some (.int (vz (x12 + 1)))]) e108_347 rfl (by decide) rfl ?_
        refine w_x e108_350 (fun _ => rfl) ?_
        exact w_sub (A1 := [some (.ref 238), some (.int (vz i1)), some (.long l_2), none, some (.int (vz i3)), none, none, some (.int (vz x7)), none, none, none, none, some (.int (vz (x12 + 1)))]) (And.intro rfl (And.intro rfl (And.intro rfl (And.intro rfl (And.intro rfl (And.intro rfl trivial)))))) ((ih.2.2.2.2.2) v193 sc_ al194 x7 (x12 + 1) hM195 (by omega) (by omega) hi0q hi1 hi2 (by omega))
set_option maxRecDepth 100000 in
set_option maxHeartbeats 4000000 in
theorem r108f {sc : Nat → Int} {ai : Nat → Nat → Int} {al : Nat → Nat → Int64} {az : Nat → Nat → Int32} {v0 vh : vm_H} (hM : tm sc ai al az v0 vh) (hK : tmok ai) {i1 : Int} (hi_1 : -2147483648 ≤ i1 ∧ i1 < 2147483648) {l_2 : Int64} {i3 : Int} (hi_3 : -2147483648 ≤ i3 ∧ i3 < 2147483648) (hn : 0 ≤ sc 1 ∧ sc 1 ≤ 8) (hp : 0 ≤ sc 4 ∧ sc 4 ≤ 16) : vm_Rp 3 77 108 [.ref 238, .int (vz i1), .long l_2, .int (vz i3)] vh (fun r v1 => ∃ (sc1 : Nat → Int) (ai1 : Nat → Nat → Int) (al1 : Nat → Nat → Int64) (q : Int), ((0 ≤ q ∧ q ≤ 1) ∧ ((sc1 = u1 sc 0 0 ∧ ¬ (q = 1 ∧ l_2.toInt ≠ 0 ∧ az 241 (i1).toNat ≠ 0)) ∨ (sc1 = fgS (u1 sc 0 0) ∧ (0 ≤ i1 ∧ i1 < sc 4) ∧ q = 1 ∧ l_2.toInt ≠ 0 ∧ az 241 (i1).toNat ≠ 0))) ∧ r = some (.int (vz q)) ∧ tmok ai1 ∧ tm sc1 ai1 al1 az v0 v1) := by
  refine w_in (m := 8) ?_
  show vm_Wp _ _ _ 0 [some (.ref 238), some (.int (vz i1)), some (.long l_2), none, some (.int (vz i3)), none, none, none, none, none, none, none, none] [] _ _
  refine w_ldA e108_0 (fun _ => rfl) rfl ?_
  refine w_kI e108_1 ?_
  have e1 := tm_o hM
  refine w_put e108_2 e1 (Nat.le_of_ble_eq_true rfl) rfl (fun v4 b2 h3 => ?_)
  obtain ⟨sc5, hd7, hM6⟩ : ∃ z, z = u1 sc 0 (0) ∧ tm z ai al az v0 v4 := ⟨_, rfl, tm_ps 0 hM (by omega) b2 h3⟩
  have hs1 : sc5 1 = sc 1 := by rw [hd7, u1_o (by decide)]
  have hs4 : sc5 4 = sc 4 := by rw [hd7, u1_o (by decide)]
  refine w_ldA e108_5 (fun _ => rfl) rfl ?_
  refine w_ldI e108_6 (fun _ => rfl) rfl ?_
  have e8 := tm_o hM6
  refine w_cv e108_7 (by decide) rfl e8 rfl (Nat.le_of_ble_eq_true rfl) (Nat.le_of_ble_eq_true rfl) (Nat.le_of_ble_eq_true rfl) (by decide) (by decide) (r103 hM6 hK hi_1) (fun o9 v10 hq11 => ?_)
  obtain ⟨rfl, q12, h13, rfl⟩ := hq11
  have hb14 := h13
  refine w_if e108_10 (by omega) (fun (h15 : q12 = 0) => ?_) (fun (h15 : q12 ≠ 0) => ?_)
  ·
    refine w_x e108_15 (fun _ => rfl) ?_
    refine w_stL (j := 5) (A1 := [some (.ref 238), some (.int (vz i1)), some (.long l_2), none, some (.int (vz i3)), some (.long ((Int64.ofNat 0))), none, none, none, none, none, none, none]) e108_16 (fun _ => rfl) (by decide) rfl ?_
    refine w_kI e108_18 ?_
    refine w_stI (j := 7) (A1 := [some (.ref 238), some (.int (vz i1)), some (.long l_2), none, some (.int (vz i3)), some (.long ((Int64.ofNat 0))), none, some (.int (vz 0)), none, none, none, none, none]) e108_19 (fun _ => rfl) (by decide) rfl ?_
    exact w_sub (A1 := [some (.ref 238), some (.int (vz i1)), some (.long l_2), none, some (.int (vz i3)), some (.long ((Int64.ofNat 0))), none, some (.int (vz 0)), none, none, none, none, none]) (And.intro rfl (And.intro rfl (And.intro rfl (And.intro rfl (And.intro rfl (And.intro rfl trivial)))))) (((r108f_L (sc := sc) (ai := ai) (al := al) (az := az) (v0 := v0) (i1 := i1) (l_2 := l_2) (i3 := i3) hK hi_1 hi_3 hn hp _).1) v4 sc5 ((Int64.ofNat 0)) 0 hM6 (by omega) hd7 (by omega) (Nat.lt_succ_self _))
  ·
    refine w_kI e108_13 ?_
    exact w_rz e108_14 rfl (by omega) ⟨sc5, ai, al, 0, ⟨by omega, Or.inl ⟨hd7, fun h9 => absurd h9.1 (by decide)⟩⟩, rfl, hK, hM6⟩
