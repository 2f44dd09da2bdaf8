set_option maxRecDepth 100000 in
set_option maxHeartbeats 4000000 in
theorem c32_L {θ : tc_S} {v0 : (Bool × Bool) × vm_H} {a1 : Nat} (ha1 : ty a1 = 1) (hw1 : wok v0 a1) {a2 : Nat} (ha2 : ty a2 = 3) : ∀ N : Nat, (∀ (vh : vm_H) (z3 : Nat) (x4 : Int) (y5 : Int64) (x7 : Int) (x8 : Int), (tc θ v0 vh) → (ty z3 = 1) → (-2147483648 ≤ x4 ∧ x4 < 2147483648) → (0 ≤ x7 ∧ x7 ≤ 1) → (0 ≤ x8 ∧ x8 ≤ 60) → ((200 - x8 : Int).toNat < N) → vm_Wp 2 64 32 41 [some (.ref 219), some (.ref a1), some (.ref a2), some (.ref z3), some (.int (vz x4)), some (.long y5), none, some (.int (vz x7)), some (.int (vz x8))] [] vh (vq_P 32 (fun r v1 => (tc θ v0 v1) ∧ ∃ q : Int, ((0 ≤ q ∧ q ≤ 1)) ∧ r = some (.int (vz q))))) ∧ (∀ (vh : vm_H) (z3 : Nat) (x4 : Int) (y5 : Int64) (x7 : Int) (x8 : Int), (tc θ v0 vh) → (ty z3 = 1) → (-2147483648 ≤ x4 ∧ x4 < 2147483648) → (0 ≤ x7 ∧ x7 ≤ 1) → (0 ≤ x8 ∧ x8 ≤ 60) → ((60 - x8 : Int).toNat < N) → vm_Wp 2 64 32 113 [some (.ref 219), some (.ref a1), some (.ref a2), some (.ref z3), some (.int (vz x4)), some (.long y5), none, some (.int (vz x7)), some (.int (vz x8))] [] vh (vq_P 32 (fun r v1 => (tc θ v0 v1) ∧ ∃ q : Int, ((0 ≤ q ∧ q ≤ 1)) ∧ r = some (.int (vz q))))) := by
  intro N
  induction N with
  | zero => exact ⟨by intros; omega, by intros; omega⟩
  | succ N ih =>
    refine ⟨?_, ?_⟩
    ·
      intro vh z3 x4 y5 x7 x8 hT hz3 hx4 hx7 hx8 hN
      have hok : (0 ≤ θ.1 ∧ θ.1 ≤ 8) ∧ (0 ≤ θ.2.1 ∧ θ.2.1 ≤ 16) ∧ (-2147483648 ≤ θ.2.2.2.1 ∧ θ.2.2.2.1 < 2147483648) ∧ (0 ≤ θ.2.2.2.2 ∧ θ.2.2.2.2 ≤ 8) := hT.1
      refine w_ldI e32_41 (fun _ => rfl) rfl ?_
      refine w_ldA e32_43 (fun _ => rfl) rfl ?_
      obtain ⟨c32, hc33, e31⟩ := tc_poly hT hz3
      refine w_get e32_44 e31 rfl ?_
      refine w_ic e32_47 (by omega) (by omega) (fun (h34 : c32 ≤ x8) => ?_) (fun (h34 : x8 < c32) => ?_)
      ·
        refine w_kI e32_110 ?_
        refine w_stI (j := 8) (A1 := [some (.ref 219), some (.ref a1), some (.ref a2), some (.ref z3), some (.int (vz x4)), some (.long y5), none, some (.int (vz x7)), some (.int (vz 0))]) e32_111 (fun _ => rfl) (by decide) rfl ?_
        exact w_sub (A1 := [some (.ref 219), some (.ref a1), some (.ref a2), some (.ref z3), some (.int (vz x4)), some (.long y5), none, some (.int (vz x7)), some (.int (vz 0))]) (And.intro rfl (And.intro rfl (And.intro rfl (And.intro rfl (And.intro rfl (And.intro rfl (And.intro rfl (And.intro rfl trivial)))))))) ((ih.2) vh z3 x4 y5 x7 0 hT hz3 hx4 (by omega) (by omega) (by omega))
      ·
        refine w_ldA e32_50 (fun _ => rfl) rfl ?_
        refine w_get e32_51 e31 rfl ?_
        refine w_ldI e32_54 (fun _ => rfl) rfl ?_
        obtain ⟨f36, e35⟩ := tc_l60 hT (ty_p hz3).1
        refine w_lldO e32_56 e35 (by omega) (by omega) (by decide) (fun l37 => ?_)
        refine w_ldA e32_57 (fun _ => rfl) rfl ?_
        obtain ⟨p39, d40, hp41, hd42, e38⟩ := tc_row hT ha2
        refine w_get e32_58 e38 rfl ?_
        refine w_cs e32_61 (by decide) (Nat.le_of_ble_eq_true rfl) (Nat.le_of_ble_eq_true rfl) (Nat.le_of_ble_eq_true rfl) (by decide) (by decide) (c73 hT hp41) (fun o43 v44 hq45 => ?_)
        obtain ⟨rfl, q47, h48, rfl⟩ := hq45
        refine w_ldA e32_64 (fun _ => rfl) rfl ?_
        refine w_get e32_65 e38 rfl ?_
        refine w_ic e32_68 h48 hd42 (fun (h49 : q47 ≠ d40) => ?_) (fun (h49 : q47 = d40) => ?_)
        ·
          refine w_iinc (A1 := [some (.ref 219), some (.ref a1), some (.ref a2), some (.ref z3), some (.int (vz x4)), some (.long y5), none, some (.int (vz x7)), some (.int (vz (x8 + 1)))]) e32_104 rfl (by decide) rfl ?_
          refine w_x e32_107 (fun _ => rfl) ?_
          exact w_sub (A1 := [some (.ref 219), some (.ref a1), some (.ref a2), some (.ref z3), some (.int (vz x4)), some (.long y5), none, some (.int (vz x7)), some (.int (vz (x8 + 1)))]) (And.intro rfl (And.intro rfl (And.intro rfl (And.intro rfl (And.intro rfl (And.intro rfl (And.intro rfl (And.intro rfl trivial)))))))) ((ih.1) vh z3 x4 y5 x7 (x8 + 1) hT hz3 hx4 (by omega) (by omega) (by omega))
        ·
          refine w_ldI e32_71 (fun _ => rfl) rfl ?_
          refine w_ldA e32_73 (fun _ => rfl) rfl ?_
          refine w_ldA e32_74 (fun _ => rfl) rfl ?_
          refine w_get e32_75 e31 rfl ?_
          refine w_ldI e32_78 (fun _ => rfl) rfl ?_
          refine w_lldO e32_80 e35 (by omega) (by omega) (by decide) (fun l50 => ?_)
          refine w_ldL e32_81 (fun _ => rfl) rfl ?_
          refine w_oL e32_83 (fun _ => rfl) (fun l51 => ?_)
          refine w_ldA e32_84 (fun _ => rfl) rfl ?_
          refine w_get e32_85 e31 rfl ?_
          refine w_ldI e32_88 (fun _ => rfl) rfl ?_
          obtain ⟨f53, e52⟩ := tc_l60 hT (ty_p hz3).2
          refine w_lldO e32_90 e52 (by omega) (by omega) (by decide) (fun l54 => ?_)
          refine w_ldA e32_91 (fun _ => rfl) rfl ?_
          refine w_ldA e32_92 (fun _ => rfl) rfl ?_
          refine w_get e32_93 e38 rfl ?_
          refine w_ldI e32_96 (fun _ => rfl) rfl ?_
          obtain ⟨k56, k57, k58, k59, s61, hk60, hs62, e55⟩ := tc_stp hT
          refine w_cv e32_98 (by decide) rfl e55 rfl (Nat.le_of_ble_eq_true rfl) (Nat.le_of_ble_eq_true rfl) (Nat.le_of_ble_eq_true rfl) (by decide) (by decide) (c33 hT ha1 hp41 hx4) (fun o63 v64 hq65 => ?_)
          obtain ⟨hT66, q67, h68, rfl⟩ := hq65
          refine w_iand e32_101 (by omega) (by omega) (fun q69 (h70 : 0 ≤ q69 ∧ q69 ≤ q67) => ?_)
          refine w_stI (j := 7) (A1 := [some (.ref 219), some (.ref a1), some (.ref a2), some (.ref z3), some (.int (vz x4)), some (.long y5), none, some (.int (vz q69)), some (.int (vz x8))]) e32_102 (fun _ => rfl) (by decide) rfl ?_
          refine w_iinc (A1 := [some (.ref 219), some (.ref a1), some (.ref a2), some (.ref z3), some (.int (vz x4)), some (.long y5), none, some (.int (vz q69)), some (.int (vz (x8 + 1)))]) e32_104 rfl (by decide) rfl ?_
          refine w_x e32_107 (fun _ => rfl) ?_
          exact w_sub (A1 := [some (.ref 219), some (.ref a1), some (.ref a2), some (.ref z3), some (.int (vz x4)), some (.long y5), none, some (.int (vz q69)), some (.int (vz (x8 + 1)))]) (And.intro rfl (And.intro rfl (And.intro rfl (And.intro rfl (And.intro rfl (And.intro rfl (And.intro rfl (And.intro rfl trivial)))))))) ((ih.1) v64 z3 x4 y5 q69 (x8 + 1) hT66 hz3 hx4 (by omega) (by omega) (by omega))
    ·
      intro vh z3 x4 y5 x7 x8 hT hz3 hx4 hx7 hx8 hN
      have hok : (0 ≤ θ.1 ∧ θ.1 ≤ 8) ∧ (0 ≤ θ.2.1 ∧ θ.2.1 ≤ 16) ∧ (-2147483648 ≤ θ.2.2.2.1 ∧ θ.2.2.2.1 < 2147483648) ∧ (0 ≤ θ.2.2.2.2 ∧ θ.2.2.2.2 ≤ 8) := hT.1
      refine w_ldI e32_113 (fun _ => rfl) rfl ?_
      refine w_ldA e32_115 (fun _ => rfl) rfl ?_
      obtain ⟨c72, hc73, e71⟩ := tc_poly hT ha1
      refine w_get e32_116 e71 rfl ?_
      refine w_ic e32_119 (by omega) (by omega) (fun (h74 : c72 ≤ x8) => ?_) (fun (h74 : x8 < c72) => ?_)
      ·
        refine w_ldI e32_183 (fun _ => rfl) rfl ?_
        refine w_if e32_185 (by omega) (fun (h75 : x7 = 0) => ?_) (fun (h75 : x7 ≠ 0) => ?_)
        ·
          refine w_kI e32_195 ?_
          exact w_rz e32_196 rfl (by omega) ⟨hT, 0, (by omega), rfl⟩
        ·
          refine w_ldA e32_188 (fun _ => rfl) rfl ?_
          obtain ⟨k77, k78, k79, k80, s82, hk81, hs83, e76⟩ := tc_stp hT
          refine w_cv e32_189 (by decide) rfl e76 rfl (Nat.le_of_ble_eq_true rfl) (Nat.le_of_ble_eq_true rfl) (Nat.le_of_ble_eq_true rfl) (by decide) (by decide) (c35 hT e76 ⟨hk81.1, hk81.2.1, hk81.2.2.1, hk81.2.2.2⟩ (by omega)) (fun o84 v85 hq86 => ?_)
          obtain ⟨rfl, q88, h89, rfl⟩ := hq86
          refine w_if e32_192 (by omega) (fun (h90 : q88 ≠ 0) => ?_) (fun (h90 : q88 = 0) => ?_)
          ·
            refine w_ldA e32_197 (fun _ => rfl) rfl ?_
            refine w_ldA e32_198 (fun _ => rfl) rfl ?_
            refine w_cv e32_199 (by decide) rfl e76 rfl (Nat.le_of_ble_eq_true rfl) (Nat.le_of_ble_eq_true rfl) (Nat.le_of_ble_eq_true rfl) (by decide) (by decide) (c36 hT ha1 hw1 e76 ⟨hk81.1, hk81.2.1, hk81.2.2.1, hk81.2.2.2⟩ (by omega)) (fun o91 v92 hq93 => ?_)
            obtain ⟨hT94, rfl⟩ := hq93
            refine w_kI e32_202 ?_
            exact w_rz e32_203 rfl (by omega) ⟨hT94, 1, (by omega), rfl⟩
          ·
            refine w_kI e32_195 ?_
            exact w_rz e32_196 rfl (by omega) ⟨hT, 0, (by omega), rfl⟩
      ·
        refine w_ldA e32_122 (fun _ => rfl) rfl ?_
        refine w_get e32_123 e71 rfl ?_
        refine w_ldI e32_126 (fun _ => rfl) rfl ?_
        obtain ⟨f96, e95⟩ := tc_l60 hT (ty_p ha1).1
        refine w_lldO e32_128 e95 (by omega) (by omega) (by decide) (fun l97 => ?_)
        refine w_ldA e32_129 (fun _ => rfl) rfl ?_
        obtain ⟨p99, d100, hp101, hd102, e98⟩ := tc_row hT ha2
        refine w_get e32_130 e98 rfl ?_
        refine w_cs e32_133 (by decide) (Nat.le_of_ble_eq_true rfl) (Nat.le_of_ble_eq_true rfl) (Nat.le_of_ble_eq_true rfl) (by decide) (by decide) (c73 hT hp101) (fun o103 v104 hq105 => ?_)
        obtain ⟨rfl, q107, h108, rfl⟩ := hq105
        refine w_ldI e32_136 (fun _ => rfl) rfl ?_
        refine w_ic e32_138 h108 hx4 (fun (h109 : q107 ≠ x4) => ?_) (fun (h109 : q107 = x4) => ?_)
        ·
          refine w_iinc (A1 := [some (.ref 219), some (.ref a1), some (.ref a2), some (.ref z3), some (.int (vz x4)), some (.long y5), none, some (.int (vz x7)), some (.int (vz (x8 + 1)))]) e32_177 rfl (by decide) rfl ?_
          refine w_x e32_180 (fun _ => rfl) ?_
          exact w_sub (A1 := [some (.ref 219), some (.ref a1), some (.ref a2), some (.ref z3), some (.int (vz x4)), some (.long y5), none, some (.int (vz x7)), some (.int (vz (x8 + 1)))]) (And.intro rfl (And.intro rfl (And.intro rfl (And.intro rfl (And.intro rfl (And.intro rfl (And.intro rfl (And.intro rfl trivial)))))))) ((ih.2) vh z3 x4 y5 x7 (x8 + 1) hT hz3 hx4 (by omega) (by omega) (by omega))
        ·
          refine w_ldI e32_141 (fun _ => rfl) rfl ?_
          refine w_ldA e32_143 (fun _ => rfl) rfl ?_
          refine w_ldA e32_144 (fun _ => rfl) rfl ?_
          refine w_get e32_145 e71 rfl ?_
          refine w_ldI e32_148 (fun _ => rfl) rfl ?_
          refine w_lldO e32_150 e95 (by omega) (by omega) (by decide) (fun l110 => ?_)
          refine w_ldL e32_151 (fun _ => rfl) rfl ?_
          refine w_oL e32_153 (fun _ => rfl) (fun l111 => ?_)
          refine w_ldA e32_154 (fun _ => rfl) rfl ?_
          refine w_get e32_155 e71 rfl ?_
          refine w_ldI e32_158 (fun _ => rfl) rfl ?_
          obtain ⟨f113, e112⟩ := tc_l60 hT (ty_p ha1).2
          refine w_lldO e32_160 e112 (by omega) (by omega) (by decide) (fun l114 => ?_)
          refine w_oL e32_161 (fun _ => rfl) (fun l115 => ?_)
          refine w_ldA e32_162 (fun _ => rfl) rfl ?_
          refine w_ldA e32_163 (fun _ => rfl) rfl ?_
          refine w_get e32_164 e98 rfl ?_
          refine w_ldA e32_167 (fun _ => rfl) rfl ?_
          refine w_get e32_168 e98 rfl ?_
          obtain ⟨k117, k118, k119, k120, s122, hk121, hs123, e116⟩ := tc_stp hT
          refine w_cv e32_171 (by decide) rfl e116 rfl (Nat.le_of_ble_eq_true rfl) (Nat.le_of_ble_eq_true rfl) (Nat.le_of_ble_eq_true rfl) (by decide) (by decide) (c33 hT hz3 hp101 hd102) (fun o124 v125 hq126 => ?_)
          obtain ⟨hT127, q128, h129, rfl⟩ := hq126
          refine w_iand e32_174 (by omega) (by omega) (fun q130 (h131 : 0 ≤ q130 ∧ q130 ≤ q128) => ?_)
          refine w_stI (j := 7) (A1 := [some (.ref 219), some (.ref a1), some (.ref a2), some (.ref z3), some (.int (vz x4)), some (.long y5), none, some (.int (vz q130)), some (.int (vz x8))]) e32_175 (fun _ => rfl) (by decide) rfl ?_
          refine w_iinc (A1 := [some (.ref 219), some (.ref a1), some (.ref a2), some (.ref z3), some (.int (vz x4)), some (.long y5), none, some (.int (vz q130)), some (.int (vz (x8 + 1)))]) e32_177 rfl (by decide) rfl ?_
          refine w_x e32_180 (fun _ => rfl) ?_
          exact w_sub (A1 := [some (.ref 219), some (.ref a1), some (.ref a2), some (.ref z3), some (.int (vz x4)), some (.long y5), none, some (.int (vz q130)), some (.int (vz (x8 + 1)))]) (And.intro rfl (And.intro rfl (And.intro rfl (And.intro rfl (And.intro rfl (And.intro rfl (And.intro rfl (And.intro rfl trivial)))))))) ((ih.2) v125 z3 x4 y5 q130 (x8 + 1) hT127 hz3 hx4 (by omega) (by omega) (by omega))
set_option maxRecDepth 100000 in
set_option maxHeartbeats 4000000 in
theorem c32 {θ : tc_S} {v0 : (Bool × Bool) × vm_H} {vh : vm_H} (hT : tc θ v0 vh) {a1 : Nat} (ha1 : ty a1 = 1) (hw1 : wok v0 a1) {a2 : Nat} (ha2 : ty a2 = 3) : vm_Rp 2 64 32 [.ref 219, .ref a1, .ref a2] vh (fun r v1 => (tc θ v0 v1) ∧ ∃ q : Int, ((0 ≤ q ∧ q ≤ 1)) ∧ r = some (.int (vz q))) := by
  have hok : (0 ≤ θ.1 ∧ θ.1 ≤ 8) ∧ (0 ≤ θ.2.1 ∧ θ.2.1 ≤ 16) ∧ (-2147483648 ≤ θ.2.2.2.1 ∧ θ.2.2.2.1 < 2147483648) ∧ (0 ≤ θ.2.2.2.2 ∧ θ.2.2.2.2 ≤ 8) := hT.1
  refine w_in (m := 6) ?_
  show vm_Wp _ _ _ 0 [some (.ref 219), some (.ref a1), some (.ref a2), none, none, none, none, none, none] [] _ _
  refine w_ldA e32_0 (fun _ => rfl) rfl ?_
  obtain ⟨p2, d3, hp4, hd5, e1⟩ := tc_row hT ha2
  refine w_get e32_1 e1 rfl ?_
  refine w_stA (j := 3) (A1 := [some (.ref 219), some (.ref a1), some (.ref a2), some (.ref (a2 + 1)), none, none, none, none, none]) e32_4 (fun _ => rfl) (by decide) rfl ?_
  refine w_ldA e32_5 (fun _ => rfl) rfl ?_
  refine w_ldA e32_6 (fun _ => rfl) rfl ?_
  refine w_get e32_7 e1 rfl ?_
  obtain ⟨c7, hc8, e6⟩ := tc_poly hT ha1
  refine w_cv e32_10 (by decide) rfl e6 rfl (Nat.le_of_ble_eq_true rfl) (Nat.le_of_ble_eq_true rfl) (Nat.le_of_ble_eq_true rfl) (by decide) (by decide) (c22 hT ha1 hp4) (fun o9 v10 hq11 => ?_)
  obtain ⟨rfl, q13, h14, rfl⟩ := hq11
  refine w_stI (j := 4) (A1 := [some (.ref 219), some (.ref a1), some (.ref a2), some (.ref (a2 + 1)), some (.int (vz q13)), none, none, none, none]) e32_13 (fun _ => rfl) (by decide) rfl ?_
  refine w_ldA e32_15 (fun _ => rfl) rfl ?_
  refine w_get e32_16 e1 rfl ?_
  refine w_oL e32_19 (fun _ => rfl) (fun l15 => ?_)
  refine w_kB e32_20 rfl ?_
  refine w_ldA e32_22 (fun _ => rfl) rfl ?_
  refine w_get e32_23 e1 rfl ?_
  refine w_imul e32_26 ?_
  refine w_oL e32_27 (fun _ => rfl) (fun l16 => ?_)
  refine w_stL (j := 5) (A1 := [some (.ref 219), some (.ref a1), some (.ref a2), some (.ref (a2 + 1)), some (.int (vz q13)), some (.long l16), none, none, none]) e32_28 (fun _ => rfl) (by decide) rfl ?_
  refine w_kI e32_30 ?_
  refine w_stI (j := 7) (A1 := [some (.ref 219), some (.ref a1), some (.ref a2), some (.ref (a2 + 1)), some (.int (vz q13)), some (.long l16), none, some (.int (vz 1)), none]) e32_31 (fun _ => rfl) (by decide) rfl ?_
  refine w_ldA e32_33 (fun _ => rfl) rfl ?_
  refine w_kI e32_34 ?_
  obtain ⟨k18, k19, k20, k21, s23, hk22, hs24, e17⟩ := tc_stp hT
  refine w_put e32_35 e17 (Nat.le_of_ble_eq_true rfl) rfl (fun v27 b25 h26 => ?_)
  have h26 : vm_at v27 219 = some (.inr (3, [.ref k18, .ref k19, .ref k20, .ref k21, .int (vz 0)])) := h26
  have hT28 := ts_stp hT ⟨hk22.1, hk22.2.1, hk22.2.2.1, hk22.2.2.2⟩ (by omega) b25 h26
  have e29 := (b25.2 a2 (ty_ne ha2 (rfl : ty 219 = 13) (by decide))).trans e1
  have e30 := (b25.2 a1 (ty_ne ha1 (rfl : ty 219 = 13) (by decide))).trans e6
  refine w_kI e32_38 ?_
  refine w_stI (j := 8) (A1 := [some (.ref 219), some (.ref a1), some (.ref a2), some (.ref (a2 + 1)), some (.int (vz q13)), some (.long l16), none, some (.int (vz 1)), some (.int (vz 0))]) e32_39 (fun _ => rfl) (by decide) rfl ?_
  exact w_sub (A1 := [some (.ref 219), some (.ref a1), some (.ref a2), some (.ref (a2 + 1)), some (.int (vz q13)), some (.long l16), none, some (.int (vz 1)), some (.int (vz 0))]) (And.intro rfl (And.intro rfl (And.intro rfl (And.intro rfl (And.intro rfl (And.intro rfl (And.intro rfl (And.intro rfl trivial)))))))) (((c32_L (θ := θ) (a1 := a1) (a2 := a2) (v0 := v0) ha1 hw1 ha2 _).1) v27 (a2 + 1) q13 l16 1 0 hT28 (ty_r ha2) h14 (by omega) (by omega) (Nat.lt_succ_self _))
