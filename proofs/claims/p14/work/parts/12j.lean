set_option maxRecDepth 100000 in
set_option maxHeartbeats 4000000 in
theorem c87_L {sc : Nat → Int} {ai : Nat → Nat → Int} {al : Nat → Nat → Int64} {az : Nat → Nat → Int32} {v0 : vm_H} {i1 : Int} (hi_1 : 0 ≤ i1 ∧ i1 < 72) {i2 : Int} (hi_2 : -2147483648 ≤ i2 ∧ i2 < 2147483648) {i3 : Int} (hi_3 : -2147483648 ≤ i3 ∧ i3 < 2147483648) (hne : i1 ≠ 70) : ∀ N : Nat, (∀ (vh : vm_H) (al_ : Nat → Nat → Int64) (x4 : Int) (x5 : Int), (tm sc ai al_ az v0 vh) → (tmok ai) → (0 ≤ x4 ∧ x4 ≤ x5) → (0 ≤ x5 ∧ x5 ≤ ai 242 (i1).toNat) → (ldR al al_ (60 * i1).toNat (ai 242 (i1).toNat).toNat (x4).toNat) → ((60 - x5 : Int).toNat < N) → vm_Wp 1 22 87 6 [some (.ref 238), some (.int (vz i1)), some (.int (vz i2)), some (.int (vz i3)), some (.int (vz x4)), some (.int (vz x5)), none, none] [] vh (vq_P 87 (fun r v1 => (∃ (al1 : Nat → Nat → Int64) (n : Int), (0 ≤ n ∧ n ≤ ai 242 (i1).toNat) ∧ ldR al al1 (60 * i1).toNat (ai 242 (i1).toNat).toNat n.toNat ∧ tm sc (u2 ai 242 70 n) al1 az v0 v1 ∧ tmok (u2 ai 242 70 n)) ∧ r = none))) := by
  intro N
  induction N with
  | zero => exact (by intros; omega)
  | succ N ih =>
    ·
      intro vh al_ x4 x5 hM hK hx4 hx5 hi0 hN
      have hcg := hK.1 (i1).toNat
      refine w_ldI e87_6 (fun _ => rfl) rfl ?_
      refine w_ldA e87_8 (fun _ => rfl) rfl ?_
      have e1 := tm_o hM
      refine w_get e87_9 e1 rfl ?_
      refine w_ldI e87_12 (fun _ => rfl) rfl ?_
      have e2 := tm_i hM (a := 242) (n := 72) rfl
      refine w_ald e87_13 e2 (by omega) (by omega) (by decide) ?_
      show vm_Wp _ _ _ 14 _ [.int (vz (ai 242 (i1).toNat)), .int (vz x5)] _ _
      have hk3 := hK.1 (i1).toNat
      refine w_ic e87_14 (by omega) (tm_r hM 242 (i1).toNat) (fun (h4 : ai 242 (i1).toNat ≤ x5) => ?_) (fun (h4 : x5 < ai 242 (i1).toNat) => ?_)
      ·
        refine w_ldA e87_99 (fun _ => rfl) rfl ?_
        refine w_get e87_100 e1 rfl ?_
        refine w_kB e87_103 rfl ?_
        refine w_ldI e87_105 (fun _ => rfl) rfl ?_
        refine w_ast e87_107 e2 (by omega) (by omega) (by decide) (by decide) (fun v7 b5 h6 => ?_)
        obtain ⟨ai8, hd10, hM9⟩ : ∃ z, z = u2 ai 242 (70 : Int).toNat x4 ∧ tm sc z al_ az v0 v7 := ⟨_, rfl, tm_pi hM rfl (by omega) b5 h6⟩
        have hK11 : tmok ai8 := by rw [hd10]; exact tmok_c hK (by omega)
        exact w_rv e87_108 rfl ⟨⟨al_, x4, by omega, hi0, (by have h9 := hM9; rw [hd10] at h9; exact h9), (by have h9 := hK11; rw [hd10] at h9; exact h9)⟩, rfl⟩
      ·
        refine w_ldA e87_17 (fun _ => rfl) rfl ?_
        refine w_get e87_18 e1 rfl ?_
        refine w_kB e87_21 rfl ?_
        refine w_ldI e87_23 (fun _ => rfl) rfl ?_
        refine w_imul e87_24 ?_
        refine w_ldI e87_25 (fun _ => rfl) rfl ?_
        refine w_iadd e87_27 ?_
        have e12 := tm_l hM (a := 244) (n := 4320) rfl
        refine w_lld e87_28 e12 (by omega) (by omega) (by decide) ?_
        refine w_stL (j := 6) (A1 := [some (.ref 238), some (.int (vz i1)), some (.int (vz i2)), some (.int (vz i3)), some (.int (vz x4)), some (.int (vz x5)), some (.long ((al_ 244 ((60 * i1) + x5).toNat))), none]) e87_29 (fun _ => rfl) (by decide) rfl ?_
        refine w_ldL e87_31 (fun _ => rfl) rfl ?_
        refine w_ldI e87_33 (fun _ => rfl) rfl ?_
        refine w_cs e87_34 (by decide) (Nat.le_of_ble_eq_true rfl) (Nat.le_of_ble_eq_true rfl) (Nat.le_of_ble_eq_true rfl) (by decide) (by decide) (c78 hi_2) (fun o13 v14 hq15 => ?_)
        obtain ⟨rfl, rfl⟩ := hq15
        have hp16 := pw_bd ((al_ 244 ((60 * i1) + x5).toNat)) i2
        refine w_ldI e87_37 (fun _ => rfl) rfl ?_
        refine w_ic e87_38 (by omega) hi_3 (fun (h17 : pw ((al_ 244 ((60 * i1) + x5).toNat)) i2 ≠ i3) => ?_) (fun (h17 : pw ((al_ 244 ((60 * i1) + x5).toNat)) i2 = i3) => ?_)
        ·
          refine w_iinc (A1 := [some (.ref 238), some (.int (vz i1)), some (.int (vz i2)), some (.int (vz i3)), some (.int (vz x4)), some (.int (vz (x5 + 1))), some (.long ((al_ 244 ((60 * i1) + x5).toNat))), none]) e87_93 rfl (by decide) rfl ?_
          refine w_x e87_96 (fun _ => rfl) ?_
          exact w_sub (A1 := [some (.ref 238), some (.int (vz i1)), some (.int (vz i2)), some (.int (vz i3)), some (.int (vz x4)), some (.int (vz (x5 + 1))), none, none]) (And.intro rfl (And.intro rfl (And.intro rfl (And.intro rfl (And.intro rfl (And.intro rfl trivial)))))) ((ih) vh al_ x4 (x5 + 1) hM hK (by omega) (by omega) hi0 (by omega))
        ·
          refine w_ldA e87_41 (fun _ => rfl) rfl ?_
          refine w_get e87_42 e1 rfl ?_
          refine w_kS e87_45 rfl ?_
          refine w_ldI e87_48 (fun _ => rfl) rfl ?_
          refine w_iadd e87_50 ?_
          refine w_ldA e87_51 (fun _ => rfl) rfl ?_
          refine w_get e87_52 e1 rfl ?_
          refine w_kB e87_55 rfl ?_
          refine w_ldI e87_57 (fun _ => rfl) rfl ?_
          refine w_imul e87_58 ?_
          refine w_ldI e87_59 (fun _ => rfl) rfl ?_
          refine w_iadd e87_61 ?_
          have e18 := tm_l hM (a := 243) (n := 4320) rfl
          refine w_lld e87_62 e18 (by omega) (by omega) (by decide) ?_
          refine w_lst e87_63 e18 (by omega) (by omega) (by decide) (fun v21 b19 h20 => ?_)
          obtain ⟨al22, hd24, hM23⟩ : ∃ z, z = u2 al_ 243 (4200 + x4).toNat ((al_ 243 ((60 * i1) + x5).toNat)) ∧ tm sc ai z az v0 v21 := ⟨_, rfl, tm_pl hM rfl b19 h20⟩
          refine w_ldA e87_64 (fun _ => rfl) rfl ?_
          have e25 := tm_o hM23
          refine w_get e87_65 e25 rfl ?_
          refine w_kS e87_68 rfl ?_
          refine w_ldI e87_71 (fun _ => rfl) rfl ?_
          refine w_iadd e87_73 ?_
          refine w_ldL e87_74 (fun _ => rfl) rfl ?_
          refine w_oL e87_76 (fun _ => rfl) (fun l26 => ?_)
          refine w_kB e87_79 rfl ?_
          refine w_ldI e87_81 (fun _ => rfl) rfl ?_
          refine w_imul e87_82 ?_
          refine w_oL e87_83 (fun _ => rfl) (fun l27 => ?_)
          refine w_oL e87_84 (fun _ => rfl) (fun l28 => ?_)
          refine w_oL e87_87 (fun _ => rfl) (fun l29 => ?_)
          refine w_oL e87_88 (fun _ => rfl) (fun l30 => ?_)
          have e31 := tm_l hM23 (a := 244) (n := 4320) rfl
          refine w_lst e87_89 e31 (by omega) (by omega) (by decide) (fun v34 b32 h33 => ?_)
          obtain ⟨al35, hd37, hM36⟩ : ∃ z, z = u2 al22 244 (4200 + x4).toNat l30 ∧ tm sc ai z az v0 v34 := ⟨_, rfl, tm_pl hM23 rfl b32 h33⟩
          refine w_iinc (A1 := [some (.ref 238), some (.int (vz i1)), some (.int (vz i2)), some (.int (vz i3)), some (.int (vz (x4 + 1))), some (.int (vz x5)), some (.long ((al_ 244 ((60 * i1) + x5).toNat))), none]) e87_90 rfl (by decide) rfl ?_
          refine w_iinc (A1 := [some (.ref 238), some (.int (vz i1)), some (.int (vz i2)), some (.int (vz i3)), some (.int (vz (x4 + 1))), some (.int (vz (x5 + 1))), some (.long ((al_ 244 ((60 * i1) + x5).toNat))), none]) e87_93 rfl (by decide) rfl ?_
          refine w_x e87_96 (fun _ => rfl) ?_
          exact w_sub (A1 := [some (.ref 238), some (.int (vz i1)), some (.int (vz i2)), some (.int (vz i3)), some (.int (vz (x4 + 1))), some (.int (vz (x5 + 1))), none, none]) (And.intro rfl (And.intro rfl (And.intro rfl (And.intro rfl (And.intro rfl (And.intro rfl trivial)))))) ((ih) v34 al35 (x4 + 1) (x5 + 1) hM36 hK (by omega) (by omega) (ld_step (by omega) (by omega) (by omega) hi0 hd24 hd37) (by omega))
set_option maxRecDepth 100000 in
set_option maxHeartbeats 4000000 in
theorem c87 {sc : Nat → Int} {ai : Nat → Nat → Int} {al : Nat → Nat → Int64} {az : Nat → Nat → Int32} {v0 vh : vm_H} (hM : tm sc ai al az v0 vh) (hK : tmok ai) {i1 : Int} (hi_1 : 0 ≤ i1 ∧ i1 < 72) {i2 : Int} (hi_2 : -2147483648 ≤ i2 ∧ i2 < 2147483648) {i3 : Int} (hi_3 : -2147483648 ≤ i3 ∧ i3 < 2147483648) (hne : i1 ≠ 70) : vm_Rp 1 22 87 [.ref 238, .int (vz i1), .int (vz i2), .int (vz i3)] vh (fun r v1 => (∃ (al1 : Nat → Nat → Int64) (n : Int), (0 ≤ n ∧ n ≤ ai 242 (i1).toNat) ∧ ldR al al1 (60 * i1).toNat (ai 242 (i1).toNat).toNat n.toNat ∧ tm sc (u2 ai 242 70 n) al1 az v0 v1 ∧ tmok (u2 ai 242 70 n)) ∧ r = none) := by
  have hcg := hK.1 (i1).toNat
  refine w_in (m := 4) ?_
  show vm_Wp _ _ _ 0 [some (.ref 238), some (.int (vz i1)), some (.int (vz i2)), some (.int (vz i3)), none, none, none, none] [] _ _
  refine w_kI e87_0 ?_
  refine w_stI (j := 4) (A1 := [some (.ref 238), some (.int (vz i1)), some (.int (vz i2)), some (.int (vz i3)), some (.int (vz 0)), none, none, none]) e87_1 (fun _ => rfl) (by decide) rfl ?_
  refine w_kI e87_3 ?_
  refine w_stI (j := 5) (A1 := [some (.ref 238), some (.int (vz i1)), some (.int (vz i2)), some (.int (vz i3)), some (.int (vz 0)), some (.int (vz 0)), none, none]) e87_4 (fun _ => rfl) (by decide) rfl ?_
  exact w_sub (A1 := [some (.ref 238), some (.int (vz i1)), some (.int (vz i2)), some (.int (vz i3)), some (.int (vz 0)), some (.int (vz 0)), none, none]) (And.intro rfl (And.intro rfl (And.intro rfl (And.intro rfl (And.intro rfl (And.intro rfl trivial)))))) (((c87_L (sc := sc) (ai := ai) (al := al) (az := az) (v0 := v0) (i1 := i1) (i2 := i2) (i3 := i3) hi_1 hi_2 hi_3 hne _)) vh al 0 0 hM hK (by omega) (by omega) (ld_0 _ _ _) (Nat.lt_succ_self _))
