set_option maxRecDepth 100000 in
set_option maxHeartbeats 4000000 in
theorem c81_L {sc : Nat → Int} {ai : Nat → Nat → Int} {al : Nat → Nat → Int64} {az : Nat → Nat → Int32} {v0 : vm_H} {i1 : Int} (hi_1 : 0 ≤ i1 ∧ i1 < 72) {i2 : Int} (hi_2 : 0 ≤ i2 ∧ i2 < 72) (hne : i1 ≠ i2) : ∀ N : Nat, (∀ (vh : vm_H) (ai_ : Nat → Nat → Int) (al_ : Nat → Nat → Int64) (x3 : Int), (tm sc ai_ al_ az v0 vh) → (tmok ai_) → (0 ≤ x3 ∧ x3 ≤ ai 242 (i1).toNat) → (ai_ = u2 ai 242 (i2).toNat (ai 242 (i1).toNat)) → (cpR al al_ (60 * i1).toNat (60 * i2).toNat (x3).toNat) → ((60 - x3 : Int).toNat < N) → vm_Wp 0 0 81 14 [some (.ref 238), some (.int (vz i1)), some (.int (vz i2)), some (.int (vz x3))] [] vh (vq_P 81 (fun r v1 => (∃ al1 : Nat → Nat → Int64, cpR al al1 (60 * i1).toNat (60 * i2).toNat (ai 242 (i1).toNat).toNat ∧ tm sc (u2 ai 242 (i2).toNat (ai 242 (i1).toNat)) al1 az v0 v1 ∧ tmok (u2 ai 242 (i2).toNat (ai 242 (i1).toNat))) ∧ r = none))) := by
  intro N
  induction N with
  | zero => exact (by intros; omega)
  | succ N ih =>
    ·
      intro vh ai_ al_ x3 hM hK hx3 hi0 hi1 hN
      have hcf : ai_ 242 (i1).toNat = ai 242 (i1).toNat := by rw [hi0, u2_o (by omega)]
      have hcg := hK.1 (i1).toNat
      refine w_ldI e81_14 (fun _ => rfl) rfl ?_
      refine w_ldA e81_15 (fun _ => rfl) rfl ?_
      have e11 := tm_o hM
      refine w_get e81_16 e11 rfl ?_
      refine w_ldI e81_19 (fun _ => rfl) rfl ?_
      have e12 := tm_i hM (a := 242) (n := 72) rfl
      refine w_ald e81_20 e12 (by omega) (by omega) (by decide) ?_
      show vm_Wp _ _ _ 21 _ [.int (vz (ai_ 242 (i1).toNat)), .int (vz x3)] _ _
      have hk13 := hK.1 (i1).toNat
      refine w_ic e81_21 (by omega) (tm_r hM 242 (i1).toNat) (fun (h14 : ai_ 242 (i1).toNat ≤ x3) => ?_) (fun (h14 : x3 < ai_ 242 (i1).toNat) => ?_)
      ·
        exact w_rv e81_74 rfl ⟨⟨al_, (by rw [← show x3 = ai 242 (i1).toNat by omega]; exact hi1), by rw [← hi0]; exact hM, by rw [← hi0]; exact hK⟩, rfl⟩
      ·
        refine w_ldA e81_24 (fun _ => rfl) rfl ?_
        refine w_get e81_25 e11 rfl ?_
        refine w_kB e81_28 rfl ?_
        refine w_ldI e81_30 (fun _ => rfl) rfl ?_
        refine w_imul e81_31 ?_
        refine w_ldI e81_32 (fun _ => rfl) rfl ?_
        refine w_iadd e81_33 ?_
        refine w_ldA e81_34 (fun _ => rfl) rfl ?_
        refine w_get e81_35 e11 rfl ?_
        refine w_kB e81_38 rfl ?_
        refine w_ldI e81_40 (fun _ => rfl) rfl ?_
        refine w_imul e81_41 ?_
        refine w_ldI e81_42 (fun _ => rfl) rfl ?_
        refine w_iadd e81_43 ?_
        have e15 := tm_l hM (a := 243) (n := 4320) rfl
        refine w_lld e81_44 e15 (by omega) (by omega) (by decide) ?_
        refine w_lst e81_45 e15 (by omega) (by omega) (by decide) (fun v18 b16 h17 => ?_)
        obtain ⟨al19, hd21, hM20⟩ : ∃ z, z = u2 al_ 243 ((60 * i2) + x3).toNat ((al_ 243 ((60 * i1) + x3).toNat)) ∧ tm sc ai_ z az v0 v18 := ⟨_, rfl, tm_pl hM rfl b16 h17⟩
        refine w_ldA e81_46 (fun _ => rfl) rfl ?_
        have e22 := tm_o hM20
        refine w_get e81_47 e22 rfl ?_
        refine w_kB e81_50 rfl ?_
        refine w_ldI e81_52 (fun _ => rfl) rfl ?_
        refine w_imul e81_53 ?_
        refine w_ldI e81_54 (fun _ => rfl) rfl ?_
        refine w_iadd e81_55 ?_
        refine w_ldA e81_56 (fun _ => rfl) rfl ?_
        refine w_get e81_57 e22 rfl ?_
        refine w_kB e81_60 rfl ?_
        refine w_ldI e81_62 (fun _ => rfl) rfl ?_
        refine w_imul e81_63 ?_
        refine w_ldI e81_64 (fun _ => rfl) rfl ?_
        refine w_iadd e81_65 ?_
        have e23 := tm_l hM20 (a := 244) (n := 4320) rfl
        refine w_lld e81_66 e23 (by omega) (by omega) (by decide) ?_
        refine w_lst e81_67 e23 (by omega) (by omega) (by decide) (fun v26 b24 h25 => ?_)
        obtain ⟨al27, hd29, hM28⟩ : ∃ z, z = u2 al19 244 ((60 * i2) + x3).toNat ((al19 244 ((60 * i1) + x3).toNat)) ∧ tm sc ai_ z az v0 v26 := ⟨_, rfl, tm_pl hM20 rfl b24 h25⟩
        refine w_iinc (A1 := [some (.ref 238), some (.int (vz i1)), some (.int (vz i2)), some (.int (vz (x3 + 1)))]) e81_68 rfl (by decide) rfl ?_
        refine w_x e81_71 (fun _ => rfl) ?_
        exact w_sub (A1 := [some (.ref 238), some (.int (vz i1)), some (.int (vz i2)), some (.int (vz (x3 + 1)))]) (And.intro rfl (And.intro rfl (And.intro rfl (And.intro rfl trivial)))) ((ih) v26 ai_ al27 (x3 + 1) hM28 hK (by omega) hi0 (cp_step (by omega) (by omega) hne (by omega) (by omega) hi1 hd21 hd29) (by omega))
set_option maxRecDepth 100000 in
set_option maxHeartbeats 4000000 in
theorem c81 {sc : Nat → Int} {ai : Nat → Nat → Int} {al : Nat → Nat → Int64} {az : Nat → Nat → Int32} {v0 vh : vm_H} (hM : tm sc ai al az v0 vh) (hK : tmok ai) {i1 : Int} (hi_1 : 0 ≤ i1 ∧ i1 < 72) {i2 : Int} (hi_2 : 0 ≤ i2 ∧ i2 < 72) (hne : i1 ≠ i2) : vm_Rp 0 0 81 [.ref 238, .int (vz i1), .int (vz i2)] vh (fun r v1 => (∃ al1 : Nat → Nat → Int64, cpR al al1 (60 * i1).toNat (60 * i2).toNat (ai 242 (i1).toNat).toNat ∧ tm sc (u2 ai 242 (i2).toNat (ai 242 (i1).toNat)) al1 az v0 v1 ∧ tmok (u2 ai 242 (i2).toNat (ai 242 (i1).toNat))) ∧ r = none) := by
  have hcg := hK.1 (i1).toNat
  refine w_in (m := 1) ?_
  show vm_Wp _ _ _ 0 [some (.ref 238), some (.int (vz i1)), some (.int (vz i2)), none] [] _ _
  refine w_ldA e81_0 (fun _ => rfl) rfl ?_
  have e1 := tm_o hM
  refine w_get e81_1 e1 rfl ?_
  refine w_ldI e81_4 (fun _ => rfl) rfl ?_
  refine w_ldA e81_5 (fun _ => rfl) rfl ?_
  refine w_get e81_6 e1 rfl ?_
  refine w_ldI e81_9 (fun _ => rfl) rfl ?_
  have e2 := tm_i hM (a := 242) (n := 72) rfl
  refine w_ald e81_10 e2 (by omega) (by omega) (by decide) ?_
  show vm_Wp _ _ _ 11 _ [.int (vz (ai 242 (i1).toNat)), .int (vz i2), .ref 242] _ _
  have hk3 := hK.1 (i1).toNat
  refine w_ast e81_11 e2 (by omega) (by omega) (by decide) (by decide) (fun v6 b4 h5 => ?_)
  obtain ⟨ai7, hd9, hM8⟩ : ∃ z, z = u2 ai 242 (i2).toNat (ai 242 (i1).toNat) ∧ tm sc z al az v0 v6 := ⟨_, rfl, tm_pi hM rfl (tm_r hM 242 (i1).toNat) b4 h5⟩
  have hK10 : tmok ai7 := by rw [hd9]; exact tmok_c hK (by omega)
  refine w_kI e81_12 ?_
  refine w_stI (j := 3) (A1 := [some (.ref 238), some (.int (vz i1)), some (.int (vz i2)), some (.int (vz 0))]) e81_13 (fun _ => rfl) (by decide) rfl ?_
  exact w_sub (A1 := [some (.ref 238), some (.int (vz i1)), some (.int (vz i2)), some (.int (vz 0))]) (And.intro rfl (And.intro rfl (And.intro rfl (And.intro rfl trivial)))) (((c81_L (sc := sc) (ai := ai) (al := al) (az := az) (v0 := v0) (i1 := i1) (i2 := i2) hi_1 hi_2 hne _)) v6 ai7 al 0 hM8 hK10 (by omega) hd9 (cp_0 _ _ _) (Nat.lt_succ_self _))
