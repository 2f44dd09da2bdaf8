set_option maxRecDepth 100000 in
set_option maxHeartbeats 4000000 in
theorem r113_L {sc : Nat → Int} {ai : Nat → Nat → Int} {al : Nat → Nat → Int64} {az : Nat → Nat → Int32} {v0 : vm_H} (hK : tmok ai) {i1 : Int} (hi_1 : -2147483648 ≤ i1 ∧ i1 < 2147483648) (hp : 0 ≤ sc 4 ∧ sc 4 ≤ 16) : ∀ N : Nat, (∀ (vh : vm_H) (sc_ : Nat → Int) (x2 : Int) (x3 : Int), (tm sc_ ai al az v0 vh) → (0 ≤ x2 ∧ x2 ≤ x3) → (0 ≤ x3 ∧ x3 ≤ sc 4) → (sc_ = u1 sc 0 0) → (x2 = hcF (hyR az) (x3).toNat) → ((17 - x3 : Int).toNat < N) → vm_Wp 0 0 113 9 [some (.ref 238), some (.int (vz i1)), some (.int (vz x2)), some (.int (vz x3))] [] vh (vq_P 113 (fun r v1 => ∃ (sc1 : Nat → Int) (q : Int), ((i1 = 0 ∧ q = sc 1) ∨ (i1 = 1 ∧ q = sc 4) ∨ (i1 = 2 ∧ q = hcF (hyR az) (sc 4).toNat) ∨ (i1 = 3 ∧ q = sc 11) ∨ (i1 = 4 ∧ q = sc 14) ∨ (i1 = 5 ∧ q = sc 15) ∨ (i1 = 6 ∧ q = sc 16) ∨ (i1 = 7 ∧ q = sc 17) ∨ (i1 = 8 ∧ ((sc 13 = 0 ∧ q = 0) ∨ (sc 13 ≠ 0 ∧ q = ai 242 68))) ∨ (i1 = 9 ∧ ((sc 12 = 0 ∧ q = 0) ∨ (sc 12 ≠ 0 ∧ q = ai 242 67))) ∨ ((i1 < 0 ∨ 9 < i1) ∧ q = -1)) ∧ sc1 = u1 sc 0 0 ∧ r = some (.int (vz q)) ∧ tm sc1 ai al az v0 v1))) := by
  intro N
  induction N with
  | zero => exact (by intros; omega)
  | succ N ih =>
    ·
      intro vh sc_ x2 x3 hM hx2 hx3 hi0q hi1 hN
      have hs1 : sc_ 1 = sc 1 := by rw [hi0q, u1_o (by decide)]
      have hs4 : sc_ 4 = sc 4 := by rw [hi0q, u1_o (by decide)]
      have hs11 : sc_ 11 = sc 11 := by rw [hi0q, u1_o (by decide)]
      have hs12 : sc_ 12 = sc 12 := by rw [hi0q, u1_o (by decide)]
      have hs13 : sc_ 13 = sc 13 := by rw [hi0q, u1_o (by decide)]
      have hs14 : sc_ 14 = sc 14 := by rw [hi0q, u1_o (by decide)]
      have hs15 : sc_ 15 = sc 15 := by rw [hi0q, u1_o (by decide)]
      have hs16 : sc_ 16 = sc 16 := by rw [hi0q, u1_o (by decide)]
      have hs17 : sc_ 17 = sc 17 := by rw [hi0q, u1_o (by decide)]
      refine w_ldI e113_9 (fun _ => rfl) rfl ?_
      refine w_ldA e113_10 (fun _ => rfl) rfl ?_
      have e8 := tm_o hM
      refine w_get e113_11 e8 rfl ?_
      refine w_ic e113_14 (by omega) (tm_s hM 4) (fun (h9 : sc_ 4 ≤ x3) => ?_) (fun (h9 : x3 < sc_ 4) => ?_)
      ·
        refine w_ldI e113_40 (fun _ => rfl) rfl ?_
        by_cases h10 : i1 < 0 ∨ 9 < i1
        ·
          refine w_swO (t := 171) e113_41 hi_1 h10 rfl ?_
          refine w_kI e113_171 ?_
          exact w_ri e113_172 rfl ⟨sc_, -1, Or.inr (Or.inr (Or.inr (Or.inr (Or.inr (Or.inr (Or.inr (Or.inr (Or.inr (Or.inr (⟨by omega, rfl⟩)))))))))), hi0q, rfl, hM⟩
        ·
          have h11 : i1 = 0 ∨ i1 = 1 ∨ i1 = 2 ∨ i1 = 3 ∨ i1 = 4 ∨ i1 = 5 ∨ i1 = 6 ∨ i1 = 7 ∨ i1 = 8 ∨ i1 = 9 := by omega
          rcases h11 with h11 | h11 | h11 | h11 | h11 | h11 | h11 | h11 | h11 | h11
          ·
            refine w_swI (t := 96) e113_41 hi_1 h10 (by rw [h11]; rfl) rfl ?_
            refine w_ldA e113_96 (fun _ => rfl) rfl ?_
            refine w_get e113_97 e8 rfl ?_
            exact w_ri e113_100 rfl ⟨sc_, sc_ 1, Or.inl ⟨by omega, by omega⟩, hi0q, rfl, hM⟩
          ·
            refine w_swI (t := 101) e113_41 hi_1 h10 (by rw [h11]; rfl) rfl ?_
            refine w_ldA e113_101 (fun _ => rfl) rfl ?_
            refine w_get e113_102 e8 rfl ?_
            exact w_ri e113_105 rfl ⟨sc_, sc_ 4, Or.inr (Or.inl ⟨by omega, by omega⟩), hi0q, rfl, hM⟩
          ·
            refine w_swI (t := 106) e113_41 hi_1 h10 (by rw [h11]; rfl) rfl ?_
            refine w_ldI e113_106 (fun _ => rfl) rfl ?_
            exact w_ri e113_107 rfl ⟨sc_, x2, Or.inr (Or.inr (Or.inl ⟨by omega, by rw [hi1, show x3 = sc 4 by omega]⟩)), hi0q, rfl, hM⟩
          ·
            refine w_swI (t := 108) e113_41 hi_1 h10 (by rw [h11]; rfl) rfl ?_
            refine w_ldA e113_108 (fun _ => rfl) rfl ?_
            refine w_get e113_109 e8 rfl ?_
            exact w_ri e113_112 rfl ⟨sc_, sc_ 11, Or.inr (Or.inr (Or.inr (Or.inl ⟨by omega, by omega⟩))), hi0q, rfl, hM⟩
          ·
            refine w_swI (t := 113) e113_41 hi_1 h10 (by rw [h11]; rfl) rfl ?_
            refine w_ldA e113_113 (fun _ => rfl) rfl ?_
            refine w_get e113_114 e8 rfl ?_
            exact w_ri e113_117 rfl ⟨sc_, sc_ 14, Or.inr (Or.inr (Or.inr (Or.inr (Or.inl ⟨by omega, by omega⟩)))), hi0q, rfl, hM⟩
          ·
            refine w_swI (t := 118) e113_41 hi_1 h10 (by rw [h11]; rfl) rfl ?_
            refine w_ldA e113_118 (fun _ => rfl) rfl ?_
            refine w_get e113_119 e8 rfl ?_
            exact w_ri e113_122 rfl ⟨sc_, sc_ 15, Or.inr (Or.inr (Or.inr (Or.inr (Or.inr (Or.inl ⟨by omega, by omega⟩))))), hi0q, rfl, hM⟩
          ·
            refine w_swI (t := 123) e113_41 hi_1 h10 (by rw [h11]; rfl) rfl ?_
            refine w_ldA e113_123 (fun _ => rfl) rfl ?_
            refine w_get e113_124 e8 rfl ?_
            exact w_ri e113_127 rfl ⟨sc_, sc_ 16, Or.inr (Or.inr (Or.inr (Or.inr (Or.inr (Or.inr (Or.inl ⟨by omega, by omega⟩)))))), hi0q, rfl, hM⟩
          ·
            refine w_swI (t := 128) e113_41 hi_1 h10 (by rw [h11]; rfl) rfl ?_
            refine w_ldA e113_128 (fun _ => rfl) rfl ?_
            refine w_get e113_129 e8 rfl ?_
            exact w_ri e113_132 rfl ⟨sc_, sc_ 17, Or.inr (Or.inr (Or.inr (Or.inr (Or.inr (Or.inr (Or.inr (Or.inl ⟨by omega, by omega⟩))))))), hi0q, rfl, hM⟩
          ·
            refine w_swI (t := 133) e113_41 hi_1 h10 (by rw [h11]; rfl) rfl ?_
            refine w_ldA e113_133 (fun _ => rfl) rfl ?_
            refine w_get e113_134 e8 rfl ?_
            refine w_if e113_137 (tm_s hM 13) (fun (h12 : sc_ 13 = 0) => ?_) (fun (h12 : sc_ 13 ≠ 0) => ?_)
            ·
              refine w_kI e113_150 ?_
              exact w_ri e113_151 rfl ⟨sc_, 0, Or.inr (Or.inr (Or.inr (Or.inr (Or.inr (Or.inr (Or.inr (Or.inr (Or.inl ⟨by omega, by omega⟩)))))))), hi0q, rfl, hM⟩
            ·
              refine w_ldA e113_140 (fun _ => rfl) rfl ?_
              refine w_get e113_141 e8 rfl ?_
              refine w_kB e113_144 rfl ?_
              have e13 := tm_i hM (a := 242) (n := 72) rfl
              refine w_ald e113_146 e13 (by omega) (by omega) (by decide) ?_
              show vm_Wp _ _ _ 147 _ [.int (vz (ai 242 68))] _ _
              have hk14 := hK.1 68
              refine w_x e113_147 (fun _ => rfl) ?_
              exact w_ri e113_151 rfl ⟨sc_, ai 242 68, Or.inr (Or.inr (Or.inr (Or.inr (Or.inr (Or.inr (Or.inr (Or.inr (Or.inl ⟨by omega, by omega⟩)))))))), hi0q, rfl, hM⟩
          ·
            refine w_swI (t := 152) e113_41 hi_1 h10 (by rw [h11]; rfl) rfl ?_
            refine w_ldA e113_152 (fun _ => rfl) rfl ?_
            refine w_get e113_153 e8 rfl ?_
            refine w_if e113_156 (tm_s hM 12) (fun (h15 : sc_ 12 = 0) => ?_) (fun (h15 : sc_ 12 ≠ 0) => ?_)
            ·
              refine w_kI e113_169 ?_
              exact w_ri e113_170 rfl ⟨sc_, 0, Or.inr (Or.inr (Or.inr (Or.inr (Or.inr (Or.inr (Or.inr (Or.inr (Or.inr (Or.inl ⟨by omega, by omega⟩))))))))), hi0q, rfl, hM⟩
            ·
              refine w_ldA e113_159 (fun _ => rfl) rfl ?_
              refine w_get e113_160 e8 rfl ?_
              refine w_kB e113_163 rfl ?_
              have e16 := tm_i hM (a := 242) (n := 72) rfl
              refine w_ald e113_165 e16 (by omega) (by omega) (by decide) ?_
              show vm_Wp _ _ _ 166 _ [.int (vz (ai 242 67))] _ _
              have hk17 := hK.1 67
              refine w_x e113_166 (fun _ => rfl) ?_
              exact w_ri e113_170 rfl ⟨sc_, ai 242 67, Or.inr (Or.inr (Or.inr (Or.inr (Or.inr (Or.inr (Or.inr (Or.inr (Or.inr (Or.inl ⟨by omega, by omega⟩))))))))), hi0q, rfl, hM⟩
      ·
        refine w_ldI e113_17 (fun _ => rfl) rfl ?_
        refine w_ldA e113_18 (fun _ => rfl) rfl ?_
        refine w_get e113_19 e8 rfl ?_
        refine w_ldI e113_22 (fun _ => rfl) rfl ?_
        have e18 := tm_z hM (a := 241) (n := 16) rfl
        refine w_zldO e113_23 e18 (by omega) (by omega) (by decide) (fun q19 h20 h21 => ?_)
        refine w_if e113_24 h20 (fun (h22 : q19 = 0) => ?_) (fun (h22 : q19 ≠ 0) => ?_)
        ·
          refine w_kI e113_31 ?_
          refine w_iadd e113_32 ?_
          refine w_stI (j := 2) (A1 := [some (.ref 238), some (.int (vz i1)), some (.int (vz (x2 + 0))), some (.int (vz x3))]) e113_33 (fun _ => rfl) (by decide) rfl ?_
          refine w_iinc (A1 := [some (.ref 238), some (.int (vz i1)), some (.int (vz (x2 + 0))), some (.int (vz (x3 + 1)))]) e113_34 rfl (by decide) rfl ?_
          refine w_x e113_37 (fun _ => rfl) ?_
          exact w_sub (A1 := [some (.ref 238), some (.int (vz i1)), some (.int (vz (x2 + 0))), some (.int (vz (x3 + 1)))]) (And.intro rfl (And.intro rfl (And.intro rfl (And.intro rfl trivial)))) ((ih) vh sc_ (x2 + 0) (x3 + 1) hM (by omega) (by omega) hi0q (hc_s hx3.1 hi1 (by rw [if_neg (fun h9 => absurd ((hyR_q h21 h20).mp h9) (by omega))])) (by omega))
        ·
          refine w_kI e113_27 ?_
          refine w_x e113_28 (fun _ => rfl) ?_
          refine w_iadd e113_32 ?_
          refine w_stI (j := 2) (A1 := [some (.ref 238), some (.int (vz i1)), some (.int (vz (x2 + 1))), some (.int (vz x3))]) e113_33 (fun _ => rfl) (by decide) rfl ?_
          refine w_iinc (A1 := [some (.ref 238), some (.int (vz i1)), some (.int (vz (x2 + 1))), some (.int (vz (x3 + 1)))]) e113_34 rfl (by decide) rfl ?_
          refine w_x e113_37 (fun _ => rfl) ?_
          exact w_sub (A1 := [some (.ref 238), some (.int (vz i1)), some (.int (vz (x2 + 1))), some (.int (vz (x3 + 1)))]) (And.intro rfl (And.intro rfl (And.intro rfl (And.intro rfl trivial)))) ((ih) vh sc_ (x2 + 1) (x3 + 1) hM (by omega) (by omega) hi0q (hc_s hx3.1 hi1 (by rw [if_pos ((hyR_q h21 h20).mpr (by omega))])) (by omega))
set_option maxRecDepth 100000 in
set_option maxHeartbeats 4000000 in
theorem r113 {sc : Nat → Int} {ai : Nat → Nat → Int} {al : Nat → Nat → Int64} {az : Nat → Nat → Int32} {v0 vh : vm_H} (hM : tm sc ai al az v0 vh) (hK : tmok ai) {i1 : Int} (hi_1 : -2147483648 ≤ i1 ∧ i1 < 2147483648) (hp : 0 ≤ sc 4 ∧ sc 4 ≤ 16) : vm_Rp 0 0 113 [.ref 238, .int (vz i1)] vh (fun r v1 => ∃ (sc1 : Nat → Int) (q : Int), ((i1 = 0 ∧ q = sc 1) ∨ (i1 = 1 ∧ q = sc 4) ∨ (i1 = 2 ∧ q = hcF (hyR az) (sc 4).toNat) ∨ (i1 = 3 ∧ q = sc 11) ∨ (i1 = 4 ∧ q = sc 14) ∨ (i1 = 5 ∧ q = sc 15) ∨ (i1 = 6 ∧ q = sc 16) ∨ (i1 = 7 ∧ q = sc 17) ∨ (i1 = 8 ∧ ((sc 13 = 0 ∧ q = 0) ∨ (sc 13 ≠ 0 ∧ q = ai 242 68))) ∨ (i1 = 9 ∧ ((sc 12 = 0 ∧ q = 0) ∨ (sc 12 ≠ 0 ∧ q = ai 242 67))) ∨ ((i1 < 0 ∨ 9 < i1) ∧ q = -1)) ∧ sc1 = u1 sc 0 0 ∧ r = some (.int (vz q)) ∧ tm sc1 ai al az v0 v1) := by
  refine w_in (m := 2) ?_
  show vm_Wp _ _ _ 0 [some (.ref 238), some (.int (vz i1)), none, none] [] _ _
  refine w_ldA e113_0 (fun _ => rfl) rfl ?_
  refine w_kI e113_1 ?_
  have e1 := tm_o hM
  refine w_put e113_2 e1 (Nat.le_of_ble_eq_true rfl) rfl (fun v4 b2 h3 => ?_)
  obtain ⟨sc5, hd7, hM6⟩ : ∃ z, z = u1 sc 0 (0) ∧ tm z ai al az v0 v4 := ⟨_, rfl, tm_ps 0 hM (by omega) b2 h3⟩
  have hs1 : sc5 1 = sc 1 := by rw [hd7, u1_o (by decide)]
  have hs4 : sc5 4 = sc 4 := by rw [hd7, u1_o (by decide)]
  have hs11 : sc5 11 = sc 11 := by rw [hd7, u1_o (by decide)]
  have hs12 : sc5 12 = sc 12 := by rw [hd7, u1_o (by decide)]
  have hs13 : sc5 13 = sc 13 := by rw [hd7, u1_o (by decide)]
  have hs14 : sc5 14 = sc 14 := by rw [hd7, u1_o (by decide)]
  have hs15 : sc5 15 = sc 15 := by rw [hd7, u1_o (by decide)]
  have hs16 : sc5 16 = sc 16 := by rw [hd7, u1_o (by decide)]
  have hs17 : sc5 17 = sc 17 := by rw [hd7, u1_o (by decide)]
  refine w_kI e113_5 ?_
  refine w_stI (j := 2) (A1 := [some (.ref 238), some (.int (vz i1)), some (.int (vz 0)), none]) e113_6 (fun _ => rfl) (by decide) rfl ?_
  refine w_kI e113_7 ?_
  refine w_stI (j := 3) (A1 := [some (.ref 238), some (.int (vz i1)), some (.int (vz 0)), some (.int (vz 0))]) e113_8 (fun _ => rfl) (by decide) rfl ?_
  exact w_sub (A1 := [some (.ref 238), some (.int (vz i1)), some (.int (vz 0)), some (.int (vz 0))]) (And.intro rfl (And.intro rfl (And.intro rfl (And.intro rfl trivial)))) (((r113_L (sc := sc) (ai := ai) (al := al) (az := az) (v0 := v0) (i1 := i1) hK hi_1 hp _)) v4 sc5 0 0 hM6 (by omega) (by omega) hd7 rfl (Nat.lt_succ_self _))
