theorem c78 {vh : vm_H} {l_0 : Int64} {i1 : Int} (hi_1 : -2147483648 ≤ i1 ∧ i1 < 2147483648) : vm_Rp 0 0 78 [.long l_0, .int (vz i1)] vh (fun r v1 => vh = v1 ∧ r = some (.int (vz (pw l_0 i1)))) := by
  refine w_in (m := 0) ?_
  show vm_Wp _ _ _ 0 [some (.long l_0), none, some (.int (vz i1))] [] _ _
  refine w_ldL e78_0 (fun _ => rfl) rfl ?_
  refine w_kB e78_1 rfl ?_
  refine w_ldI e78_3 (fun _ => rfl) rfl ?_
  refine w_imul e78_4 ?_
  refine w_x e78_5 (fun _ => rfl) ?_
  refine w_x e78_6 (fun _ => rfl) ?_
  refine w_kS e78_7 rfl ?_
  refine w_x e78_10 (fun _ => rfl) ?_
  exact w_ri e78_11 rfl ⟨rfl, by rw [← pw_vz]; rfl⟩
set_option maxRecDepth 100000 in
set_option maxHeartbeats 4000000 in
theorem c79_L {sc : Nat → Int} {ai : Nat → Nat → Int} {al : Nat → Nat → Int64} {az : Nat → Nat → Int32} {v0 vh : vm_H} (hM : tm sc ai al az v0 vh) (hK : tmok ai) {l_1 : Int64} (hn : 0 ≤ sc 1 ∧ sc 1 ≤ 8) : ∀ N : Nat, (∀ (y3 : Int64) (x5 : Int), (-1 ≤ x5 ∧ x5 ≤ 7) → ((x5 + 1 : Int).toNat < N) → vm_Wp 1 22 79 10 [some (.ref 238), some (.long l_1), none, some (.long y3), none, some (.int (vz x5))] [] vh (vq_P 79 (fun r v1 => vh = v1 ∧ ∃ q : Int64, r = some (.long q)))) := by
  intro N
  induction N with
  | zero => exact (by intros; omega)
  | succ N ih =>
    ·
      intro y3 x5 hx5 hN
      refine w_ldI e79_10 (fun _ => rfl) rfl ?_
      refine w_if e79_12 (by omega) (fun (h3 : x5 < 0) => ?_) (fun (h3 : 0 ≤ x5) => ?_)
      ·
        refine w_ldL e79_39 (fun _ => rfl) rfl ?_
        exact w_rl e79_40 rfl ⟨rfl, _, rfl⟩
      ·
        refine w_ldL e79_15 (fun _ => rfl) rfl ?_
        refine w_kB e79_16 rfl ?_
        refine w_oL e79_18 (fun _ => rfl) (fun l4 => ?_)
        refine w_ldL e79_19 (fun _ => rfl) rfl ?_
        refine w_ldA e79_20 (fun _ => rfl) rfl ?_
        have e5 := tm_o hM
        refine w_get e79_21 e5 rfl ?_
        refine w_ldI e79_24 (fun _ => rfl) rfl ?_
        have e6 := tm_i hM (a := 240) (n := 8) rfl
        refine w_ald e79_26 e6 (by omega) (by omega) (by decide) ?_
        show vm_Wp _ _ _ 27 _ [.int (vz (ai 240 (x5).toNat)), .long l_1, .long l4] _ _
        have hk7 := hK.2 (x5).toNat
        refine w_cs e79_27 (by decide) (Nat.le_of_ble_eq_true rfl) (Nat.le_of_ble_eq_true rfl) (Nat.le_of_ble_eq_true rfl) (by decide) (by decide) (c78 (tm_r hM 240 (x5).toNat)) (fun o8 v9 hq10 => ?_)
        obtain ⟨rfl, rfl⟩ := hq10
        have hp11 := pw_bd l_1 (ai 240 (x5).toNat)
        refine w_oL e79_30 (fun _ => rfl) (fun l12 => ?_)
        refine w_oL e79_31 (fun _ => rfl) (fun l13 => ?_)
        refine w_stL (j := 3) (A1 := [some (.ref 238), some (.long l_1), none, some (.long l13), none, some (.int (vz x5))]) e79_32 (fun _ => rfl) (by decide) rfl ?_
        refine w_iinc (A1 := [some (.ref 238), some (.long l_1), none, some (.long l13), none, some (.int (vz (x5 + (-1))))]) e79_33 rfl (by decide) rfl ?_
        refine w_x e79_36 (fun _ => rfl) ?_
        exact w_sub (A1 := [some (.ref 238), some (.long l_1), none, some (.long l13), none, some (.int (vz (x5 + (-1))))]) (And.intro rfl (And.intro rfl (And.intro rfl (And.intro rfl trivial)))) ((ih) l13 (x5 + (-1)) (by omega) (by omega))
set_option maxRecDepth 100000 in
set_option maxHeartbeats 4000000 in
theorem c79 {sc : Nat → Int} {ai : Nat → Nat → Int} {al : Nat → Nat → Int64} {az : Nat → Nat → Int32} {v0 vh : vm_H} (hM : tm sc ai al az v0 vh) (hK : tmok ai) {l_1 : Int64} (hn : 0 ≤ sc 1 ∧ sc 1 ≤ 8) : vm_Rp 1 22 79 [.ref 238, .long l_1] vh (fun r v1 => vh = v1 ∧ ∃ q : Int64, r = some (.long q)) := by
  refine w_in (m := 3) ?_
  show vm_Wp _ _ _ 0 [some (.ref 238), some (.long l_1), none, none, none, none] [] _ _
  refine w_oL e79_0 (fun _ => rfl) (fun l1 => ?_)
  refine w_stL (j := 3) (A1 := [some (.ref 238), some (.long l_1), none, some (.long l1), none, none]) e79_1 (fun _ => rfl) (by decide) rfl ?_
  refine w_ldA e79_2 (fun _ => rfl) rfl ?_
  have e2 := tm_o hM
  refine w_get e79_3 e2 rfl ?_
  refine w_kI e79_6 ?_
  refine w_isub e79_7 ?_
  refine w_stI (j := 5) (A1 := [some (.ref 238), some (.long l_1), none, some (.long l1), none, some (.int (vz ((sc 1) - 1)))]) e79_8 (fun _ => rfl) (by decide) rfl ?_
  exact w_sub (A1 := [some (.ref 238), some (.long l_1), none, some (.long l1), none, some (.int (vz ((sc 1) - 1)))]) (And.intro rfl (And.intro rfl (And.intro rfl (And.intro rfl trivial)))) (((c79_L (sc := sc) (ai := ai) (al := al) (az := az) (v0 := v0) (vh := vh) (l_1 := l_1) hM hK hn _)) l1 ((sc 1) - 1) (by omega) (Nat.lt_succ_self _))
set_option maxRecDepth 100000 in
set_option maxHeartbeats 4000000 in
theorem c84_L {sc : Nat → Int} {ai : Nat → Nat → Int} {al : Nat → Nat → Int64} {az : Nat → Nat → Int32} {v0 vh : vm_H} (hM : tm sc ai al az v0 vh) (hK : tmok ai) {i1 : Int} (hi_1 : 0 ≤ i1 ∧ i1 < 72) {i2 : Int} (hi_2 : 0 ≤ i2 ∧ i2 < 72) : ∀ N : Nat, (∀ (x3 : Int) (x4 : Int), (0 ≤ x3 ∧ x3 ≤ 1) → (0 ≤ x4 ∧ x4 ≤ 60) → ((60 - x4 : Int).toNat < N) → vm_Wp 0 0 84 24 [some (.ref 238), some (.int (vz i1)), some (.int (vz i2)), some (.int (vz x3)), some (.int (vz x4))] [] vh (vq_P 84 (fun r v1 => vh = v1 ∧ ∃ q : Int, ((0 ≤ q ∧ q ≤ 1)) ∧ r = some (.int (vz q))))) := by
  intro N
  induction N with
  | zero => exact (by intros; omega)
  | succ N ih =>
    ·
      intro x3 x4 hx3 hx4 hN
      refine w_ldI e84_24 (fun _ => rfl) rfl ?_
      refine w_ldA e84_26 (fun _ => rfl) rfl ?_
      have e6 := tm_o hM
      refine w_get e84_27 e6 rfl ?_
      refine w_ldI e84_30 (fun _ => rfl) rfl ?_
      have e7 := tm_i hM (a := 242) (n := 72) rfl
      refine w_ald e84_31 e7 (by omega) (by omega) (by decide) ?_
      show vm_Wp _ _ _ 32 _ [.int (vz (ai 242 (i1).toNat)), .int (vz x4)] _ _
      have hk8 := hK.1 (i1).toNat
      refine w_ic e84_32 (by omega) (tm_r hM 242 (i1).toNat) (fun (h9 : ai 242 (i1).toNat ≤ x4) => ?_) (fun (h9 : x4 < ai 242 (i1).toNat) => ?_)
      ·
        refine w_ldI e84_107 (fun _ => rfl) rfl ?_
        exact w_rz e84_108 rfl (by omega) ⟨rfl, x3, (by omega), rfl⟩
      ·
        refine w_ldI e84_35 (fun _ => rfl) rfl ?_
        refine w_if e84_36 (by omega) (fun (h10 : x3 = 0) => ?_) (fun (h10 : x3 ≠ 0) => ?_)
        ·
          refine w_ldI e84_107 (fun _ => rfl) rfl ?_
          exact w_rz e84_108 rfl (by omega) ⟨rfl, x3, (by omega), rfl⟩
        ·
          refine w_ldA e84_39 (fun _ => rfl) rfl ?_
          refine w_get e84_40 e6 rfl ?_
          refine w_kB e84_43 rfl ?_
          refine w_ldI e84_45 (fun _ => rfl) rfl ?_
          refine w_imul e84_46 ?_
          refine w_ldI e84_47 (fun _ => rfl) rfl ?_
          refine w_iadd e84_49 ?_
          have e11 := tm_l hM (a := 243) (n := 4320) rfl
          refine w_lldO e84_50 e11 (by omega) (by omega) (by decide) (fun l12 => ?_)
          refine w_ldA e84_51 (fun _ => rfl) rfl ?_
          refine w_get e84_52 e6 rfl ?_
          refine w_kB e84_55 rfl ?_
          refine w_ldI e84_57 (fun _ => rfl) rfl ?_
          refine w_imul e84_58 ?_
          refine w_ldI e84_59 (fun _ => rfl) rfl ?_
          refine w_iadd e84_61 ?_
          refine w_lldO e84_62 e11 (by omega) (by omega) (by decide) (fun l13 => ?_)
          refine w_lcmp e84_63 (fun q14 (h15 : -1 ≤ q14 ∧ q14 ≤ 1) h16 h17 => ?_)
          refine w_if e84_64 (by omega) (fun (h18 : q14 ≠ 0) => ?_) (fun (h18 : q14 = 0) => ?_)
          ·
            refine w_kI e84_99 ?_
            refine w_stI (j := 3) (A1 := [some (.ref 238), some (.int (vz i1)), some (.int (vz i2)), some (.int (vz 0)), some (.int (vz x4))]) e84_100 (fun _ => rfl) (by decide) rfl ?_
            refine w_iinc (A1 := [some (.ref 238), some (.int (vz i1)), some (.int (vz i2)), some (.int (vz 0)), some (.int (vz (x4 + 1)))]) e84_101 rfl (by decide) rfl ?_
            refine w_x e84_104 (fun _ => rfl) ?_
            exact w_sub (A1 := [some (.ref 238), some (.int (vz i1)), some (.int (vz i2)), some (.int (vz 0)), some (.int (vz (x4 + 1)))]) (And.intro rfl (And.intro rfl (And.intro rfl (And.intro rfl (And.intro rfl trivial))))) ((ih) 0 (x4 + 1) (by omega) (by omega) (by omega))
          ·
            refine w_ldA e84_67 (fun _ => rfl) rfl ?_
            refine w_get e84_68 e6 rfl ?_
            refine w_kB e84_71 rfl ?_
            refine w_ldI e84_73 (fun _ => rfl) rfl ?_
            refine w_imul e84_74 ?_
            refine w_ldI e84_75 (fun _ => rfl) rfl ?_
            refine w_iadd e84_77 ?_
            have e19 := tm_l hM (a := 244) (n := 4320) rfl
            refine w_lldO e84_78 e19 (by omega) (by omega) (by decide) (fun l20 => ?_)
            refine w_ldA e84_79 (fun _ => rfl) rfl ?_
            refine w_get e84_80 e6 rfl ?_
            refine w_kB e84_83 rfl ?_
            refine w_ldI e84_85 (fun _ => rfl) rfl ?_
            refine w_imul e84_86 ?_
            refine w_ldI e84_87 (fun _ => rfl) rfl ?_
            refine w_iadd e84_89 ?_
            refine w_lldO e84_90 e19 (by omega) (by omega) (by decide) (fun l21 => ?_)
            refine w_lcmp e84_91 (fun q22 (h23 : -1 ≤ q22 ∧ q22 ≤ 1) h24 h25 => ?_)
            refine w_if e84_92 (by omega) (fun (h26 : q22 ≠ 0) => ?_) (fun (h26 : q22 = 0) => ?_)
            ·
              refine w_kI e84_99 ?_
              refine w_stI (j := 3) (A1 := [some (.ref 238), some (.int (vz i1)), some (.int (vz i2)), some (.int (vz 0)), some (.int (vz x4))]) e84_100 (fun _ => rfl) (by decide) rfl ?_
              refine w_iinc (A1 := [some (.ref 238), some (.int (vz i1)), some (.int (vz i2)), some (.int (vz 0)), some (.int (vz (x4 + 1)))]) e84_101 rfl (by decide) rfl ?_
              refine w_x e84_104 (fun _ => rfl) ?_
              exact w_sub (A1 := [some (.ref 238), some (.int (vz i1)), some (.int (vz i2)), some (.int (vz 0)), some (.int (vz (x4 + 1)))]) (And.intro rfl (And.intro rfl (And.intro rfl (And.intro rfl (And.intro rfl trivial))))) ((ih) 0 (x4 + 1) (by omega) (by omega) (by omega))
            ·
              refine w_kI e84_95 ?_
              refine w_x e84_96 (fun _ => rfl) ?_
              refine w_stI (j := 3) (A1 := [some (.ref 238), some (.int (vz i1)), some (.int (vz i2)), some (.int (vz 1)), some (.int (vz x4))]) e84_100 (fun _ => rfl) (by decide) rfl ?_
              refine w_iinc (A1 := [some (.ref 238), some (.int (vz i1)), some (.int (vz i2)), some (.int (vz 1)), some (.int (vz (x4 + 1)))]) e84_101 rfl (by decide) rfl ?_
              refine w_x e84_104 (fun _ => rfl) ?_
              exact w_sub (A1 := [some (.ref 238), some (.int (vz i1)), some (.int (vz i2)), some (.int (vz 1)), some (.int (vz (x4 + 1)))]) (And.intro rfl (And.intro rfl (And.intro rfl (And.intro rfl (And.intro rfl trivial))))) ((ih) 1 (x4 + 1) (by omega) (by omega) (by omega))
set_option maxRecDepth 100000 in
set_option maxHeartbeats 4000000 in
theorem c84 {sc : Nat → Int} {ai : Nat → Nat → Int} {al : Nat → Nat → Int64} {az : Nat → Nat → Int32} {v0 vh : vm_H} (hM : tm sc ai al az v0 vh) (hK : tmok ai) {i1 : Int} (hi_1 : 0 ≤ i1 ∧ i1 < 72) {i2 : Int} (hi_2 : 0 ≤ i2 ∧ i2 < 72) : vm_Rp 0 0 84 [.ref 238, .int (vz i1), .int (vz i2)] vh (fun r v1 => vh = v1 ∧ ∃ q : Int, ((0 ≤ q ∧ q ≤ 1)) ∧ r = some (.int (vz q))) := by
  refine w_in (m := 2) ?_
  show vm_Wp _ _ _ 0 [some (.ref 238), some (.int (vz i1)), some (.int (vz i2)), none, none] [] _ _
  refine w_ldA e84_0 (fun _ => rfl) rfl ?_
  have e1 := tm_o hM
  refine w_get e84_1 e1 rfl ?_
  refine w_ldI e84_4 (fun _ => rfl) rfl ?_
  have e2 := tm_i hM (a := 242) (n := 72) rfl
  refine w_ald e84_5 e2 (by omega) (by omega) (by decide) ?_
  show vm_Wp _ _ _ 6 _ [.int (vz (ai 242 (i1).toNat))] _ _
  have hk3 := hK.1 (i1).toNat
  refine w_ldA e84_6 (fun _ => rfl) rfl ?_
  refine w_get e84_7 e1 rfl ?_
  refine w_ldI e84_10 (fun _ => rfl) rfl ?_
  refine w_ald e84_11 e2 (by omega) (by omega) (by decide) ?_
  show vm_Wp _ _ _ 12 _ [.int (vz (ai 242 (i2).toNat)), .int (vz (ai 242 (i1).toNat))] _ _
  have hk4 := hK.1 (i2).toNat
  refine w_ic e84_12 (tm_r hM 242 (i1).toNat) (tm_r hM 242 (i2).toNat) (fun (h5 : ai 242 (i1).toNat ≠ ai 242 (i2).toNat) => ?_) (fun (h5 : ai 242 (i1).toNat = ai 242 (i2).toNat) => ?_)
  ·
    refine w_kI e84_19 ?_
    refine w_stI (j := 3) (A1 := [some (.ref 238), some (.int (vz i1)), some (.int (vz i2)), some (.int (vz 0)), none]) e84_20 (fun _ => rfl) (by decide) rfl ?_
    refine w_kI e84_21 ?_
    refine w_stI (j := 4) (A1 := [some (.ref 238), some (.int (vz i1)), some (.int (vz i2)), some (.int (vz 0)), some (.int (vz 0))]) e84_22 (fun _ => rfl) (by decide) rfl ?_
    exact w_sub (A1 := [some (.ref 238), some (.int (vz i1)), some (.int (vz i2)), some (.int (vz 0)), some (.int (vz 0))]) (And.intro rfl (And.intro rfl (And.intro rfl (And.intro rfl (And.intro rfl trivial))))) (((c84_L (sc := sc) (ai := ai) (al := al) (az := az) (v0 := v0) (vh := vh) (i1 := i1) (i2 := i2) hM hK hi_1 hi_2 _)) 0 0 (by omega) (by omega) (Nat.lt_succ_self _))
  ·
    refine w_kI e84_15 ?_
    refine w_x e84_16 (fun _ => rfl) ?_
    refine w_stI (j := 3) (A1 := [some (.ref 238), some (.int (vz i1)), some (.int (vz i2)), some (.int (vz 1)), none]) e84_20 (fun _ => rfl) (by decide) rfl ?_
    refine w_kI e84_21 ?_
    refine w_stI (j := 4) (A1 := [some (.ref 238), some (.int (vz i1)), some (.int (vz i2)), some (.int (vz 1)), some (.int (vz 0))]) e84_22 (fun _ => rfl) (by decide) rfl ?_
    exact w_sub (A1 := [some (.ref 238), some (.int (vz i1)), some (.int (vz i2)), some (.int (vz 1)), some (.int (vz 0))]) (And.intro rfl (And.intro rfl (And.intro rfl (And.intro rfl (And.intro rfl trivial))))) (((c84_L (sc := sc) (ai := ai) (al := al) (az := az) (v0 := v0) (vh := vh) (i1 := i1) (i2 := i2) hM hK hi_1 hi_2 _)) 1 0 (by omega) (by omega) (Nat.lt_succ_self _))
set_option maxRecDepth 100000 in
set_option maxHeartbeats 4000000 in
theorem c89_L {vh : vm_H} {l_0 : Int64} : ∀ N : Nat, (∀ (x2 : Int) (x3 : Int), (0 ≤ x2 ∧ x2 ≤ 1) → (0 ≤ x3 ∧ x3 ≤ 8) → ((8 - x3 : Int).toNat < N) → vm_Wp 1 22 89 4 [some (.long l_0), none, some (.int (vz x2)), some (.int (vz x3))] [] vh (vq_P 89 (fun r v1 => vh = v1 ∧ ∃ q : Int, ((0 ≤ q ∧ q ≤ 1)) ∧ r = some (.int (vz q))))) := by
  intro N
  induction N with
  | zero => exact (by intros; omega)
  | succ N ih =>
    ·
      intro x2 x3 hx2 hx3 hN
      refine w_ldI e89_4 (fun _ => rfl) rfl ?_
      refine w_kB e89_5 rfl ?_
      refine w_ic e89_7 (by omega) (by omega) (fun (h1 : 8 ≤ x3) => ?_) (fun (h1 : x3 < 8) => ?_)
      ·
        refine w_ldI e89_34 (fun _ => rfl) rfl ?_
        exact w_rz e89_35 rfl (by omega) ⟨rfl, x2, (by omega), rfl⟩
      ·
        refine w_ldI e89_10 (fun _ => rfl) rfl ?_
        refine w_ldL e89_11 (fun _ => rfl) rfl ?_
        refine w_ldI e89_12 (fun _ => rfl) rfl ?_
        refine w_cs e89_13 (by decide) (Nat.le_of_ble_eq_true rfl) (Nat.le_of_ble_eq_true rfl) (Nat.le_of_ble_eq_true rfl) (by decide) (by decide) (c78 (by omega)) (fun o2 v3 hq4 => ?_)
        obtain ⟨rfl, rfl⟩ := hq4
        have hp5 := pw_bd l_0 x3
        refine w_kB e89_16 rfl ?_
        refine w_ic e89_18 (by omega) (by omega) (fun (h6 : 15 < pw l_0 x3) => ?_) (fun (h6 : pw l_0 x3 ≤ 15) => ?_)
        ·
          refine w_kI e89_25 ?_
          refine w_iand e89_26 (by omega) (by omega) (fun q7 (h8 : 0 ≤ q7 ∧ q7 ≤ 0) => ?_)
          refine w_stI (j := 2) (A1 := [some (.long l_0), none, some (.int (vz q7)), some (.int (vz x3))]) e89_27 (fun _ => rfl) (by decide) rfl ?_
          refine w_iinc (A1 := [some (.long l_0), none, some (.int (vz q7)), some (.int (vz (x3 + 1)))]) e89_28 rfl (by decide) rfl ?_
          refine w_x e89_31 (fun _ => rfl) ?_
          exact w_sub (A1 := [some (.long l_0), none, some (.int (vz q7)), some (.int (vz (x3 + 1)))]) (And.intro rfl (And.intro rfl (And.intro rfl trivial))) ((ih) q7 (x3 + 1) (by omega) (by omega) (by omega))
        ·
          refine w_kI e89_21 ?_
          refine w_x e89_22 (fun _ => rfl) ?_
          refine w_iand e89_26 (by omega) (by omega) (fun q9 (h10 : 0 ≤ q9 ∧ q9 ≤ 1) => ?_)
          refine w_stI (j := 2) (A1 := [some (.long l_0), none, some (.int (vz q9)), some (.int (vz x3))]) e89_27 (fun _ => rfl) (by decide) rfl ?_
          refine w_iinc (A1 := [some (.long l_0), none, some (.int (vz q9)), some (.int (vz (x3 + 1)))]) e89_28 rfl (by decide) rfl ?_
          refine w_x e89_31 (fun _ => rfl) ?_
          exact w_sub (A1 := [some (.long l_0), none, some (.int (vz q9)), some (.int (vz (x3 + 1)))]) (And.intro rfl (And.intro rfl (And.intro rfl trivial))) ((ih) q9 (x3 + 1) (by omega) (by omega) (by omega))
set_option maxRecDepth 100000 in
set_option maxHeartbeats 4000000 in
theorem c89 {vh : vm_H} {l_0 : Int64} : vm_Rp 1 22 89 [.long l_0] vh (fun r v1 => vh = v1 ∧ ∃ q : Int, ((0 ≤ q ∧ q ≤ 1)) ∧ r = some (.int (vz q))) := by
  refine w_in (m := 2) ?_
  show vm_Wp _ _ _ 0 [some (.long l_0), none, none, none] [] _ _
  refine w_kI e89_0 ?_
  refine w_stI (j := 2) (A1 := [some (.long l_0), none, some (.int (vz 1)), none]) e89_1 (fun _ => rfl) (by decide) rfl ?_
  refine w_kI e89_2 ?_
  refine w_stI (j := 3) (A1 := [some (.long l_0), none, some (.int (vz 1)), some (.int (vz 0))]) e89_3 (fun _ => rfl) (by decide) rfl ?_
  exact w_sub (A1 := [some (.long l_0), none, some (.int (vz 1)), some (.int (vz 0))]) (And.intro rfl (And.intro rfl (And.intro rfl trivial))) (((c89_L (vh := vh) (l_0 := l_0)  _)) 1 0 (by omega) (by omega) (Nat.lt_succ_self _))
set_option maxRecDepth 100000 in
set_option maxHeartbeats 4000000 in
theorem c103 {sc : Nat → Int} {ai : Nat → Nat → Int} {al : Nat → Nat → Int64} {az : Nat → Nat → Int32} {v0 vh : vm_H} (hM : tm sc ai al az v0 vh) (hK : tmok ai) {i1 : Int} (hi_1 : -2147483648 ≤ i1 ∧ i1 < 2147483648) : vm_Rp 0 0 103 [.ref 238, .int (vz i1)] vh (fun r v1 => vh = v1 ∧ ∃ q : Int, ((0 ≤ q ∧ q ≤ 1) ∧ ((q = 1 ∧ (i1 < 0 ∨ sc 4 ≤ i1)) ∨ (q = 0 ∧ 0 ≤ i1 ∧ i1 < sc 4))) ∧ r = some (.int (vz q))) := by
  refine w_in (m := 0) ?_
  show vm_Wp _ _ _ 0 [some (.ref 238), some (.int (vz i1))] [] _ _
  refine w_ldI e103_0 (fun _ => rfl) rfl ?_
  refine w_if e103_1 hi_1 (fun (h1 : i1 < 0) => ?_) (fun (h1 : 0 ≤ i1) => ?_)
  ·
    refine w_kI e103_12 ?_
    refine w_x e103_13 (fun _ => rfl) ?_
    exact w_rz e103_17 rfl (by omega) ⟨rfl, 1, (by omega), rfl⟩
  ·
    refine w_ldI e103_4 (fun _ => rfl) rfl ?_
    refine w_ldA e103_5 (fun _ => rfl) rfl ?_
    have e2 := tm_o hM
    refine w_get e103_6 e2 rfl ?_
    refine w_ic e103_9 hi_1 (tm_s hM 4) (fun (h3 : i1 < sc 4) => ?_) (fun (h3 : sc 4 ≤ i1) => ?_)
    ·
      refine w_kI e103_16 ?_
      exact w_rz e103_17 rfl (by omega) ⟨rfl, 0, (by omega), rfl⟩
    ·
      refine w_kI e103_12 ?_
      refine w_x e103_13 (fun _ => rfl) ?_
      exact w_rz e103_17 rfl (by omega) ⟨rfl, 1, (by omega), rfl⟩
set_option maxRecDepth 100000 in
set_option maxHeartbeats 4000000 in
theorem c110 {sc : Nat → Int} {ai : Nat → Nat → Int} {al : Nat → Nat → Int64} {az : Nat → Nat → Int32} {v0 vh : vm_H} (hM : tm sc ai al az v0 vh) (hK : tmok ai) {i1 : Int} (hi_1 : -2147483648 ≤ i1 ∧ i1 < 2147483648) : vm_Rp 0 0 110 [.ref 238, .int (vz i1)] vh (fun r v1 => vh = v1 ∧ ∃ q : Int, ((0 ≤ q ∧ q ≤ 1) ∧ ((q = 1 ∧ (i1 < 0 ∨ sc 11 ≤ i1)) ∨ (q = 0 ∧ 0 ≤ i1 ∧ i1 < sc 11))) ∧ r = some (.int (vz q))) := by
  refine w_in (m := 0) ?_
  show vm_Wp _ _ _ 0 [some (.ref 238), some (.int (vz i1))] [] _ _
  refine w_ldI e110_0 (fun _ => rfl) rfl ?_
  refine w_if e110_1 hi_1 (fun (h1 : i1 < 0) => ?_) (fun (h1 : 0 ≤ i1) => ?_)
  ·
    refine w_kI e110_12 ?_
    refine w_x e110_13 (fun _ => rfl) ?_
    exact w_rz e110_17 rfl (by omega) ⟨rfl, 1, (by omega), rfl⟩
  ·
    refine w_ldI e110_4 (fun _ => rfl) rfl ?_
    refine w_ldA e110_5 (fun _ => rfl) rfl ?_
    have e2 := tm_o hM
    refine w_get e110_6 e2 rfl ?_
    refine w_ic e110_9 hi_1 (tm_s hM 11) (fun (h3 : i1 < sc 11) => ?_) (fun (h3 : sc 11 ≤ i1) => ?_)
    ·
      refine w_kI e110_16 ?_
      exact w_rz e110_17 rfl (by omega) ⟨rfl, 0, (by omega), rfl⟩
    ·
      refine w_kI e110_12 ?_
      refine w_x e110_13 (fun _ => rfl) ?_
      exact w_rz e110_17 rfl (by omega) ⟨rfl, 1, (by omega), rfl⟩
set_option maxRecDepth 100000 in
set_option maxHeartbeats 4000000 in
theorem c118_L {sc : Nat → Int} {ai : Nat → Nat → Int} {al : Nat → Nat → Int64} {az : Nat → Nat → Int32} {v0 vh : vm_H} (hM : tm sc ai al az v0 vh) (hK : tmok ai) {l_1 : Int64} : ∀ N : Nat, (∀ (y3 : Int64) (x5 : Int), (0 ≤ x5 ∧ x5 ≤ 8) → (((8 - x5) * 1000 + 999 : Int).toNat < N) → vm_Wp 1 22 118 5 [some (.ref 238), some (.long l_1), none, some (.long y3), none, some (.int (vz x5)), none] [] vh (vq_P 118 (fun r v1 => vh = v1 ∧ ∃ q : Int64, r = some (.long q)))) ∧ (∀ (y3 : Int64) (x5 : Int) (x6 : Int), (0 ≤ x5 ∧ x5 < 8) → (0 ≤ x6 ∧ x6 ≤ 255) → (((8 - x5) * 1000 + x6 : Int).toNat < N) → vm_Wp 1 22 118 20 [some (.ref 238), some (.long l_1), none, some (.long y3), none, some (.int (vz x5)), some (.int (vz x6))] [] vh (vq_P 118 (fun r v1 => vh = v1 ∧ ∃ q : Int64, r = some (.long q)))) := by
  intro N
  induction N with
  | zero => exact ⟨by intros; omega, by intros; omega⟩
  | succ N ih =>
    refine ⟨?_, ?_⟩
    ·
      intro y3 x5 hx5 hN
      refine w_ldI e118_5 (fun _ => rfl) rfl ?_
      refine w_kB e118_7 rfl ?_
      refine w_ic e118_9 (by omega) (by omega) (fun (h2 : 8 ≤ x5) => ?_) (fun (h2 : x5 < 8) => ?_)
      ·
        refine w_ldL e118_47 (fun _ => rfl) rfl ?_
        exact w_rl e118_48 rfl ⟨rfl, _, rfl⟩
      ·
        refine w_ldL e118_12 (fun _ => rfl) rfl ?_
        refine w_ldI e118_13 (fun _ => rfl) rfl ?_
        refine w_cs e118_15 (by decide) (Nat.le_of_ble_eq_true rfl) (Nat.le_of_ble_eq_true rfl) (Nat.le_of_ble_eq_true rfl) (by decide) (by decide) (c78 (by omega)) (fun o3 v4 hq5 => ?_)
        obtain ⟨rfl, rfl⟩ := hq5
        have hp6 := pw_bd l_1 x5
        refine w_stI (j := 6) (A1 := [some (.ref 238), some (.long l_1), none, some (.long y3), none, some (.int (vz x5)), some (.int (vz (pw l_1 x5)))]) e118_18 (fun _ => rfl) (by decide) rfl ?_
        exact w_sub (A1 := [some (.ref 238), some (.long l_1), none, some (.long y3), none, some (.int (vz x5)), some (.int (vz (pw l_1 x5)))]) (And.intro rfl (And.intro rfl (And.intro rfl (And.intro rfl (And.intro rfl trivial))))) ((ih.2) y3 x5 (pw l_1 x5) (by omega) (by omega) (by omega))
    ·
      intro y3 x5 x6 hx5 hx6 hN
      refine w_ldI e118_20 (fun _ => rfl) rfl ?_
      refine w_if e118_22 (by omega) (fun (h7 : x6 ≤ 0) => ?_) (fun (h7 : 0 < x6) => ?_)
      ·
        refine w_iinc (A1 := [some (.ref 238), some (.long l_1), none, some (.long y3), none, some (.int (vz (x5 + 1))), some (.int (vz x6))]) e118_41 rfl (by decide) rfl ?_
        refine w_x e118_44 (fun _ => rfl) ?_
        exact w_sub (A1 := [some (.ref 238), some (.long l_1), none, some (.long y3), none, some (.int (vz (x5 + 1))), none]) (And.intro rfl (And.intro rfl (And.intro rfl (And.intro rfl trivial)))) ((ih.1) y3 (x5 + 1) (by omega) (by omega))
      ·
        refine w_ldL e118_25 (fun _ => rfl) rfl ?_
        refine w_ldA e118_26 (fun _ => rfl) rfl ?_
        have e8 := tm_o hM
        refine w_get e118_27 e8 rfl ?_
        refine w_ldI e118_30 (fun _ => rfl) rfl ?_
        have e9 := tm_l hM (a := 245) (n := 8) rfl
        refine w_lldO e118_32 e9 (by omega) (by omega) (by decide) (fun l10 => ?_)
        refine w_oL e118_33 (fun _ => rfl) (fun l11 => ?_)
        refine w_stL (j := 3) (A1 := [some (.ref 238), some (.long l_1), none, some (.long l11), none, some (.int (vz x5)), some (.int (vz x6))]) e118_34 (fun _ => rfl) (by decide) rfl ?_
        refine w_iinc (A1 := [some (.ref 238), some (.long l_1), none, some (.long l11), none, some (.int (vz x5)), some (.int (vz (x6 + (-1))))]) e118_35 rfl (by decide) rfl ?_
        refine w_x e118_38 (fun _ => rfl) ?_
        exact w_sub (A1 := [some (.ref 238), some (.long l_1), none, some (.long l11), none, some (.int (vz x5)), some (.int (vz (x6 + (-1))))]) (And.intro rfl (And.intro rfl (And.intro rfl (And.intro rfl (And.intro rfl trivial))))) ((ih.2) l11 x5 (x6 + (-1)) (by omega) (by omega) (by omega))
set_option maxRecDepth 100000 in
set_option maxHeartbeats 4000000 in
theorem c118 {sc : Nat → Int} {ai : Nat → Nat → Int} {al : Nat → Nat → Int64} {az : Nat → Nat → Int32} {v0 vh : vm_H} (hM : tm sc ai al az v0 vh) (hK : tmok ai) {l_1 : Int64} : vm_Rp 1 22 118 [.ref 238, .long l_1] vh (fun r v1 => vh = v1 ∧ ∃ q : Int64, r = some (.long q)) := by
  refine w_in (m := 4) ?_
  show vm_Wp _ _ _ 0 [some (.ref 238), some (.long l_1), none, none, none, none, none] [] _ _
  refine w_oL e118_0 (fun _ => rfl) (fun l1 => ?_)
  refine w_stL (j := 3) (A1 := [some (.ref 238), some (.long l_1), none, some (.long l1), none, none, none]) e118_1 (fun _ => rfl) (by decide) rfl ?_
  refine w_kI e118_2 ?_
  refine w_stI (j := 5) (A1 := [some (.ref 238), some (.long l_1), none, some (.long l1), none, some (.int (vz 0)), none]) e118_3 (fun _ => rfl) (by decide) rfl ?_
  exact w_sub (A1 := [some (.ref 238), some (.long l_1), none, some (.long l1), none, some (.int (vz 0)), none]) (And.intro rfl (And.intro rfl (And.intro rfl (And.intro rfl trivial)))) (((c118_L (sc := sc) (ai := ai) (al := al) (az := az) (v0 := v0) (vh := vh) (l_1 := l_1) hM hK _).1) l1 0 (by omega) (Nat.lt_succ_self _))
set_option maxRecDepth 100000 in
set_option maxHeartbeats 4000000 in
theorem c85_L {sc : Nat → Int} {ai : Nat → Nat → Int} {al : Nat → Nat → Int64} {az : Nat → Nat → Int32} {v0 vh : vm_H} (hM : tm sc ai al az v0 vh) (hK : tmok ai) {i1 : Int} (hi_1 : 0 ≤ i1 ∧ i1 < 72) {i2 : Int} (hi_2 : -2147483648 ≤ i2 ∧ i2 < 2147483648) : ∀ N : Nat, (∀ (x3 : Int) (x4 : Int), (-2147483648 ≤ x3 ∧ x3 < 2147483648) → (0 ≤ x4 ∧ x4 ≤ ai 242 (i1).toNat) → (x3 = dgf (al 244) (60 * i1).toNat i2 (x4).toNat) → ((60 - x4 : Int).toNat < N) → vm_Wp 1 22 85 5 [some (.ref 238), some (.int (vz i1)), some (.int (vz i2)), some (.int (vz x3)), some (.int (vz x4)), none] [] vh (vq_P 85 (fun r v1 => vh = v1 ∧ r = some (.int (vz (dgf (al 244) (60 * i1).toNat i2 (ai 242 (i1).toNat).toNat)))))) := by
  intro N
  induction N with
  | zero => exact (by intros; omega)
  | succ N ih =>
    ·
      intro x3 x4 hx3 hx4 hi0 hN
      have hk0 := hK.1 (i1).toNat
      refine w_ldI e85_5 (fun _ => rfl) rfl ?_
      refine w_ldA e85_7 (fun _ => rfl) rfl ?_
      have e1 := tm_o hM
      refine w_get e85_8 e1 rfl ?_
      refine w_ldI e85_11 (fun _ => rfl) rfl ?_
      have e2 := tm_i hM (a := 242) (n := 72) rfl
      refine w_ald e85_12 e2 (by omega) (by omega) (by decide) ?_
      show vm_Wp _ _ _ 13 _ [.int (vz (ai 242 (i1).toNat)), .int (vz x4)] _ _
      have hk3 := hK.1 (i1).toNat
      refine w_ic e85_13 (by omega) (tm_r hM 242 (i1).toNat) (fun (h4 : ai 242 (i1).toNat ≤ x4) => ?_) (fun (h4 : x4 < ai 242 (i1).toNat) => ?_)
      ·
        refine w_ldI e85_53 (fun _ => rfl) rfl ?_
        exact w_ri e85_54 rfl ⟨rfl, by rw [hi0, show x4 = ai 242 (i1).toNat by omega]⟩
      ·
        refine w_ldA e85_16 (fun _ => rfl) rfl ?_
        refine w_get e85_17 e1 rfl ?_
        refine w_kB e85_20 rfl ?_
        refine w_ldI e85_22 (fun _ => rfl) rfl ?_
        refine w_imul e85_23 ?_
        refine w_ldI e85_24 (fun _ => rfl) rfl ?_
        refine w_iadd e85_26 ?_
        have e5 := tm_l hM (a := 244) (n := 4320) rfl
        refine w_lld e85_27 e5 (by omega) (by omega) (by decide) ?_
        refine w_ldI e85_28 (fun _ => rfl) rfl ?_
        refine w_cs e85_29 (by decide) (Nat.le_of_ble_eq_true rfl) (Nat.le_of_ble_eq_true rfl) (Nat.le_of_ble_eq_true rfl) (by decide) (by decide) (c78 hi_2) (fun o6 v7 hq8 => ?_)
        obtain ⟨rfl, rfl⟩ := hq8
        have hp9 := pw_bd ((al 244 ((60 * i1) + x4).toNat)) i2
        refine w_stI (j := 5) (A1 := [some (.ref 238), some (.int (vz i1)), some (.int (vz i2)), some (.int (vz x3)), some (.int (vz x4)), some (.int (vz (pw ((al 244 ((60 * i1) + x4).toNat)) i2)))]) e85_32 (fun _ => rfl) (by decide) rfl ?_
        refine w_ldI e85_34 (fun _ => rfl) rfl ?_
        refine w_ldI e85_36 (fun _ => rfl) rfl ?_
        refine w_ic e85_37 (by omega) hx3 (fun (h10 : pw ((al 244 ((60 * i1) + x4).toNat)) i2 ≤ x3) => ?_) (fun (h10 : x3 < pw ((al 244 ((60 * i1) + x4).toNat)) i2) => ?_)
        ·
          refine w_ldI e85_45 (fun _ => rfl) rfl ?_
          refine w_stI (j := 3) (A1 := [some (.ref 238), some (.int (vz i1)), some (.int (vz i2)), some (.int (vz x3)), some (.int (vz x4)), some (.int (vz (pw ((al 244 ((60 * i1) + x4).toNat)) i2)))]) e85_46 (fun _ => rfl) (by decide) rfl ?_
          refine w_iinc (A1 := [some (.ref 238), some (.int (vz i1)), some (.int (vz i2)), some (.int (vz x3)), some (.int (vz (x4 + 1))), some (.int (vz (pw ((al 244 ((60 * i1) + x4).toNat)) i2)))]) e85_47 rfl (by decide) rfl ?_
          refine w_x e85_50 (fun _ => rfl) ?_
          exact w_sub (A1 := [some (.ref 238), some (.int (vz i1)), some (.int (vz i2)), some (.int (vz x3)), some (.int (vz (x4 + 1))), none]) (And.intro rfl (And.intro rfl (And.intro rfl (And.intro rfl (And.intro rfl trivial))))) ((ih) x3 (x4 + 1) hx3 (by omega) (dg_step hi_1.1 hx4.1 hi0 (by omega)) (by omega))
        ·
          refine w_ldI e85_40 (fun _ => rfl) rfl ?_
          refine w_x e85_42 (fun _ => rfl) ?_
          refine w_stI (j := 3) (A1 := [some (.ref 238), some (.int (vz i1)), some (.int (vz i2)), some (.int (vz (pw ((al 244 ((60 * i1) + x4).toNat)) i2))), some (.int (vz x4)), some (.int (vz (pw ((al 244 ((60 * i1) + x4).toNat)) i2)))]) e85_46 (fun _ => rfl) (by decide) rfl ?_
          refine w_iinc (A1 := [some (.ref 238), some (.int (vz i1)), some (.int (vz i2)), some (.int (vz (pw ((al 244 ((60 * i1) + x4).toNat)) i2))), some (.int (vz (x4 + 1))), some (.int (vz (pw ((al 244 ((60 * i1) + x4).toNat)) i2)))]) e85_47 rfl (by decide) rfl ?_
          refine w_x e85_50 (fun _ => rfl) ?_
          exact w_sub (A1 := [some (.ref 238), some (.int (vz i1)), some (.int (vz i2)), some (.int (vz (pw ((al 244 ((60 * i1) + x4).toNat)) i2))), some (.int (vz (x4 + 1))), none]) (And.intro rfl (And.intro rfl (And.intro rfl (And.intro rfl (And.intro rfl trivial))))) ((ih) (pw ((al 244 ((60 * i1) + x4).toNat)) i2) (x4 + 1) (by omega) (by omega) (dg_step hi_1.1 hx4.1 hi0 (by omega)) (by omega))
set_option maxRecDepth 100000 in
set_option maxHeartbeats 4000000 in
theorem c85 {sc : Nat → Int} {ai : Nat → Nat → Int} {al : Nat → Nat → Int64} {az : Nat → Nat → Int32} {v0 vh : vm_H} (hM : tm sc ai al az v0 vh) (hK : tmok ai) {i1 : Int} (hi_1 : 0 ≤ i1 ∧ i1 < 72) {i2 : Int} (hi_2 : -2147483648 ≤ i2 ∧ i2 < 2147483648) : vm_Rp 1 22 85 [.ref 238, .int (vz i1), .int (vz i2)] vh (fun r v1 => vh = v1 ∧ r = some (.int (vz (dgf (al 244) (60 * i1).toNat i2 (ai 242 (i1).toNat).toNat)))) := by
  have hk0 := hK.1 (i1).toNat
  refine w_in (m := 3) ?_
  show vm_Wp _ _ _ 0 [some (.ref 238), some (.int (vz i1)), some (.int (vz i2)), none, none, none] [] _ _
  refine w_kI e85_0 ?_
  refine w_stI (j := 3) (A1 := [some (.ref 238), some (.int (vz i1)), some (.int (vz i2)), some (.int (vz 0)), none, none]) e85_1 (fun _ => rfl) (by decide) rfl ?_
  refine w_kI e85_2 ?_
  refine w_stI (j := 4) (A1 := [some (.ref 238), some (.int (vz i1)), some (.int (vz i2)), some (.int (vz 0)), some (.int (vz 0)), none]) e85_3 (fun _ => rfl) (by decide) rfl ?_
  exact w_sub (A1 := [some (.ref 238), some (.int (vz i1)), some (.int (vz i2)), some (.int (vz 0)), some (.int (vz 0)), none]) (And.intro rfl (And.intro rfl (And.intro rfl (And.intro rfl (And.intro rfl trivial))))) (((c85_L (sc := sc) (ai := ai) (al := al) (az := az) (v0 := v0) (vh := vh) (i1 := i1) (i2 := i2) hM hK hi_1 hi_2 _)) 0 0 (by omega) (by omega) rfl (Nat.lt_succ_self _))
set_option maxRecDepth 100000 in
set_option maxHeartbeats 4000000 in
theorem c86_L {sc : Nat → Int} {ai : Nat → Nat → Int} {al : Nat → Nat → Int64} {az : Nat → Nat → Int32} {v0 vh : vm_H} (hM : tm sc ai al az v0 vh) (hK : tmok ai) {i1 : Int} (hi_1 : 0 ≤ i1 ∧ i1 < 72) (hn : 0 ≤ sc 1 ∧ sc 1 ≤ 8) : ∀ N : Nat, (∀ (x2 : Int), (-1 ≤ x2 ∧ x2 < sc 1) → (mpf (az 239) (ai 240) (fun v => dgf (al 244) (60 * i1).toNat v (ai 242 (i1).toNat).toNat) (sc 1).toNat = mpf (az 239) (ai 240) (fun v => dgf (al 244) (60 * i1).toNat v (ai 242 (i1).toNat).toNat) (x2 + 1).toNat) → ((x2 + 1 : Int).toNat < N) → vm_Wp 2 47 86 7 [some (.ref 238), some (.int (vz i1)), some (.int (vz x2))] [] vh (vq_P 86 (fun r v1 => vh = v1 ∧ r = some (.int (vz (mpf (az 239) (ai 240) (fun v => dgf (al 244) (60 * i1).toNat v (ai 242 (i1).toNat).toNat) (sc 1).toNat)))))) := by
  intro N
  induction N with
  | zero => exact (by intros; omega)
  | succ N ih =>
    ·
      intro x2 hx2 hi0 hN
      refine w_ldI e86_7 (fun _ => rfl) rfl ?_
      refine w_if e86_8 (by omega) (fun (h2 : x2 < 0) => ?_) (fun (h2 : 0 ≤ x2) => ?_)
      ·
        refine w_kI e86_47 ?_
        exact w_ri e86_48 rfl ⟨rfl, by rw [hi0, show x2 = -1 by omega]; rfl⟩
      ·
        refine w_ldA e86_11 (fun _ => rfl) rfl ?_
        have e3 := tm_o hM
        refine w_get e86_12 e3 rfl ?_
        refine w_ldA e86_15 (fun _ => rfl) rfl ?_
        refine w_get e86_16 e3 rfl ?_
        refine w_ldI e86_19 (fun _ => rfl) rfl ?_
        have e4 := tm_i hM (a := 240) (n := 8) rfl
        refine w_ald e86_20 e4 (by omega) (by omega) (by decide) ?_
        show vm_Wp _ _ _ 21 _ [.int (vz (ai 240 (x2).toNat)), .ref 239] _ _
        have hk5 := hK.2 (x2).toNat
        have e6 := tm_z hM (a := 239) (n := 8) rfl
        refine w_zldO e86_21 e6 (by omega) (by omega) (by decide) (fun q7 h8 h9 => ?_)
        refine w_if e86_22 h8 (fun (h10 : q7 ≠ 0) => ?_) (fun (h10 : q7 = 0) => ?_)
        ·
          refine w_iinc (A1 := [some (.ref 238), some (.int (vz i1)), some (.int (vz (x2 + (-1))))]) e86_41 rfl (by decide) rfl ?_
          refine w_x e86_44 (fun _ => rfl) ?_
          exact w_sub (A1 := [some (.ref 238), some (.int (vz i1)), some (.int (vz (x2 + (-1))))]) (And.intro rfl (And.intro rfl (And.intro rfl trivial))) ((ih) (x2 + (-1)) (by omega) (hi0.trans (mp_miss (by omega) (by omega) h9 (by omega) (Or.inl h10))) (by omega))
        ·
          refine w_ldA e86_25 (fun _ => rfl) rfl ?_
          refine w_ldI e86_26 (fun _ => rfl) rfl ?_
          refine w_ldA e86_27 (fun _ => rfl) rfl ?_
          refine w_get e86_28 e3 rfl ?_
          refine w_ldI e86_31 (fun _ => rfl) rfl ?_
          refine w_ald e86_32 e4 (by omega) (by omega) (by decide) ?_
          show vm_Wp _ _ _ 33 _ [.int (vz (ai 240 (x2).toNat)), .int (vz i1), .ref 238] _ _
          have hk11 := hK.2 (x2).toNat
          refine w_cv e86_33 (by decide) rfl e3 rfl (Nat.le_of_ble_eq_true rfl) (Nat.le_of_ble_eq_true rfl) (Nat.le_of_ble_eq_true rfl) (by decide) (by decide) (c85 hM hK (by omega) (tm_r hM 240 (x2).toNat)) (fun o12 v13 hq14 => ?_)
          obtain ⟨rfl, rfl⟩ := hq14
          have hp15 := dgf_bd (al 244) (60 * i1).toNat (ai 240 (x2).toNat) (ai 242 (i1).toNat).toNat
          refine w_if e86_36 (by omega) (fun (h16 : dgf (al 244) (60 * i1).toNat (ai 240 (x2).toNat) (ai 242 (i1).toNat).toNat ≤ 0) => ?_) (fun (h16 : 0 < dgf (al 244) (60 * i1).toNat (ai 240 (x2).toNat) (ai 242 (i1).toNat).toNat) => ?_)
          ·
            refine w_iinc (A1 := [some (.ref 238), some (.int (vz i1)), some (.int (vz (x2 + (-1))))]) e86_41 rfl (by decide) rfl ?_
            refine w_x e86_44 (fun _ => rfl) ?_
            exact w_sub (A1 := [some (.ref 238), some (.int (vz i1)), some (.int (vz (x2 + (-1))))]) (And.intro rfl (And.intro rfl (And.intro rfl trivial))) ((ih) (x2 + (-1)) (by omega) (hi0.trans (mp_miss (by omega) (by omega) h9 (by omega) (Or.inr h16))) (by omega))
          ·
            refine w_ldI e86_39 (fun _ => rfl) rfl ?_
            exact w_ri e86_40 rfl ⟨rfl, by rw [hi0, mp_hit (by omega) h9 (by omega) h16]⟩
set_option maxRecDepth 100000 in
set_option maxHeartbeats 4000000 in
theorem c86 {sc : Nat → Int} {ai : Nat → Nat → Int} {al : Nat → Nat → Int64} {az : Nat → Nat → Int32} {v0 vh : vm_H} (hM : tm sc ai al az v0 vh) (hK : tmok ai) {i1 : Int} (hi_1 : 0 ≤ i1 ∧ i1 < 72) (hn : 0 ≤ sc 1 ∧ sc 1 ≤ 8) : vm_Rp 2 47 86 [.ref 238, .int (vz i1)] vh (fun r v1 => vh = v1 ∧ r = some (.int (vz (mpf (az 239) (ai 240) (fun v => dgf (al 244) (60 * i1).toNat v (ai 242 (i1).toNat).toNat) (sc 1).toNat)))) := by
  refine w_in (m := 1) ?_
  show vm_Wp _ _ _ 0 [some (.ref 238), some (.int (vz i1)), none] [] _ _
  refine w_ldA e86_0 (fun _ => rfl) rfl ?_
  have e1 := tm_o hM
  refine w_get e86_1 e1 rfl ?_
  refine w_kI e86_4 ?_
  refine w_isub e86_5 ?_
  refine w_stI (j := 2) (A1 := [some (.ref 238), some (.int (vz i1)), some (.int (vz ((sc 1) - 1)))]) e86_6 (fun _ => rfl) (by decide) rfl ?_
  exact w_sub (A1 := [some (.ref 238), some (.int (vz i1)), some (.int (vz ((sc 1) - 1)))]) (And.intro rfl (And.intro rfl (And.intro rfl trivial))) (((c86_L (sc := sc) (ai := ai) (al := al) (az := az) (v0 := v0) (vh := vh) (i1 := i1) hM hK hi_1 hn _)) ((sc 1) - 1) (by omega) (by rw [show sc 1 - 1 + 1 = sc 1 by omega]) (Nat.lt_succ_self _))
set_option maxRecDepth 100000 in
set_option maxHeartbeats 4000000 in
theorem c119_L {sc : Nat → Int} {ai : Nat → Nat → Int} {al : Nat → Nat → Int64} {az : Nat → Nat → Int32} {v0 vh : vm_H} (hM : tm sc ai al az v0 vh) (hK : tmok ai) {i1 : Int} (hi_1 : 0 ≤ i1 ∧ i1 < 72) : ∀ N : Nat, (∀ (y2 : Int64) (x4 : Int), (0 ≤ x4 ∧ x4 ≤ 60) → ((60 - x4 : Int).toNat < N) → vm_Wp 2 48 119 5 [some (.ref 238), some (.int (vz i1)), some (.long y2), none, some (.int (vz x4))] [] vh (vq_P 119 (fun r v1 => vh = v1 ∧ ∃ q : Int64, r = some (.long q)))) := by
  intro N
  induction N with
  | zero => exact (by intros; omega)
  | succ N ih =>
    ·
      intro y2 x4 hx4 hN
      refine w_ldI e119_5 (fun _ => rfl) rfl ?_
      refine w_ldA e119_7 (fun _ => rfl) rfl ?_
      have e2 := tm_o hM
      refine w_get e119_8 e2 rfl ?_
      refine w_ldI e119_11 (fun _ => rfl) rfl ?_
      have e3 := tm_i hM (a := 242) (n := 72) rfl
      refine w_ald e119_12 e3 (by omega) (by omega) (by decide) ?_
      show vm_Wp _ _ _ 13 _ [.int (vz (ai 242 (i1).toNat)), .int (vz x4)] _ _
      have hk4 := hK.1 (i1).toNat
      refine w_ic e119_13 (by omega) (tm_r hM 242 (i1).toNat) (fun (h5 : ai 242 (i1).toNat ≤ x4) => ?_) (fun (h5 : x4 < ai 242 (i1).toNat) => ?_)
      ·
        refine w_ldL e119_54 (fun _ => rfl) rfl ?_
        exact w_rl e119_55 rfl ⟨rfl, _, rfl⟩
      ·
        refine w_ldL e119_16 (fun _ => rfl) rfl ?_
        refine w_ldA e119_17 (fun _ => rfl) rfl ?_
        refine w_get e119_18 e2 rfl ?_
        refine w_kB e119_21 rfl ?_
        refine w_ldI e119_23 (fun _ => rfl) rfl ?_
        refine w_imul e119_24 ?_
        refine w_ldI e119_25 (fun _ => rfl) rfl ?_
        refine w_iadd e119_27 ?_
        have e6 := tm_l hM (a := 243) (n := 4320) rfl
        refine w_lldO e119_28 e6 (by omega) (by omega) (by decide) (fun l7 => ?_)
        refine w_ldA e119_29 (fun _ => rfl) rfl ?_
        refine w_ldA e119_30 (fun _ => rfl) rfl ?_
        refine w_get e119_31 e2 rfl ?_
        refine w_kB e119_34 rfl ?_
        refine w_ldI e119_36 (fun _ => rfl) rfl ?_
        refine w_imul e119_37 ?_
        refine w_ldI e119_38 (fun _ => rfl) rfl ?_
        refine w_iadd e119_40 ?_
        have e8 := tm_l hM (a := 244) (n := 4320) rfl
        refine w_lldO e119_41 e8 (by omega) (by omega) (by decide) (fun l9 => ?_)
        refine w_cv e119_42 (by decide) rfl e2 rfl (Nat.le_of_ble_eq_true rfl) (Nat.le_of_ble_eq_true rfl) (Nat.le_of_ble_eq_true rfl) (by decide) (by decide) (c118 hM hK) (fun o10 v11 hq12 => ?_)
        obtain ⟨rfl, l13, rfl⟩ := hq12
        refine w_oL e119_45 (fun _ => rfl) (fun l14 => ?_)
        refine w_oL e119_46 (fun _ => rfl) (fun l15 => ?_)
        refine w_stL (j := 2) (A1 := [some (.ref 238), some (.int (vz i1)), some (.long l15), none, some (.int (vz x4))]) e119_47 (fun _ => rfl) (by decide) rfl ?_
        refine w_iinc (A1 := [some (.ref 238), some (.int (vz i1)), some (.long l15), none, some (.int (vz (x4 + 1)))]) e119_48 rfl (by decide) rfl ?_
        refine w_x e119_51 (fun _ => rfl) ?_
        exact w_sub (A1 := [some (.ref 238), some (.int (vz i1)), some (.long l15), none, some (.int (vz (x4 + 1)))]) (And.intro rfl (And.intro rfl (And.intro rfl (And.intro rfl trivial)))) ((ih) l15 (x4 + 1) (by omega) (by omega))
set_option maxRecDepth 100000 in
set_option maxHeartbeats 4000000 in
theorem c119 {sc : Nat → Int} {ai : Nat → Nat → Int} {al : Nat → Nat → Int64} {az : Nat → Nat → Int32} {v0 vh : vm_H} (hM : tm sc ai al az v0 vh) (hK : tmok ai) {i1 : Int} (hi_1 : 0 ≤ i1 ∧ i1 < 72) : vm_Rp 2 48 119 [.ref 238, .int (vz i1)] vh (fun r v1 => vh = v1 ∧ ∃ q : Int64, r = some (.long q)) := by
  refine w_in (m := 3) ?_
  show vm_Wp _ _ _ 0 [some (.ref 238), some (.int (vz i1)), none, none, none] [] _ _
  refine w_oL e119_0 (fun _ => rfl) (fun l1 => ?_)
  refine w_stL (j := 2) (A1 := [some (.ref 238), some (.int (vz i1)), some (.long l1), none, none]) e119_1 (fun _ => rfl) (by decide) rfl ?_
  refine w_kI e119_2 ?_
  refine w_stI (j := 4) (A1 := [some (.ref 238), some (.int (vz i1)), some (.long l1), none, some (.int (vz 0))]) e119_3 (fun _ => rfl) (by decide) rfl ?_
  exact w_sub (A1 := [some (.ref 238), some (.int (vz i1)), some (.long l1), none, some (.int (vz 0))]) (And.intro rfl (And.intro rfl (And.intro rfl (And.intro rfl trivial)))) (((c119_L (sc := sc) (ai := ai) (al := al) (az := az) (v0 := v0) (vh := vh) (i1 := i1) hM hK hi_1 _)) l1 0 (by omega) (Nat.lt_succ_self _))
