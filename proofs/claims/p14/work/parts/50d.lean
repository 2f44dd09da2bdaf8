set_option maxRecDepth 100000 in
set_option maxHeartbeats 4000000 in
theorem r106c_L {sc : Nat → Int} {ai : Nat → Nat → Int} {al : Nat → Nat → Int64} {az : Nat → Nat → Int32} {v0 : vm_H} (hK : tmok ai) {i1 : Int} (hi_1 : -2147483648 ≤ i1 ∧ i1 < 2147483648) {i2 : Int} (hi_2 : -2147483648 ≤ i2 ∧ i2 < 2147483648) (hn : 0 ≤ sc 1 ∧ sc 1 ≤ 8) (hp : 0 ≤ sc 4 ∧ sc 4 ≤ 16) (hsj : ∀ v : Int, 0 ≤ v → v < sc 1 → ∃ j : Nat, (j : Int) < sc 1 ∧ ai 240 j = v) : ∀ N : Nat, (∀ (vh : vm_H) (sc_ : Nat → Int) (x3 : Int), (tm sc_ ai al az v0 vh) → (0 ≤ x3 ∧ x3 < sc 1) → (sc_ = u1 sc 0 0) → (((0 ≤ i1 ∧ i1 < sc 1) ∧ (0 ≤ i2 ∧ i2 < sc 1))) → (∃ j : Nat, x3 ≤ (j : Int) ∧ (j : Int) < sc 1 ∧ ai 240 j = i2) → ((4000 - x3 : Int).toNat < N) → vm_Wp 3 77 106 33 [some (.ref 238), some (.int (vz i1)), some (.int (vz i2)), some (.int (vz x3)), none] [] vh (vq_P 106 (fun r v1 => ∃ (sc1 : Nat → Int) (ai1 : Nat → Nat → Int) (al1 : Nat → Nat → Int64) (q : Int), ((sc1 = u1 sc 0 0 ∧ ai1 = ai ∧ al1 = al ∧ (¬ ((0 ≤ i1 ∧ i1 < sc 1) ∧ (0 ≤ i2 ∧ i2 < sc 1)) ∨ ((0 ≤ i1 ∧ i1 < sc 1) ∧ ai 240 (i1).toNat = i2))) ∨ ∃ f : Nat, ((f : Int) < sc 1 ∧ ai 240 f = i2 ∧ (f : Int) ≠ i1) ∧ ((0 ≤ i1 ∧ i1 < sc 1) ∧ (0 ≤ i2 ∧ i2 < sc 1)) ∧ ((∀ b, b ≠ 240 → ai1 b = ai b) ∧ ai1 240 = mvF (ai 240) f (i1).toNat) ∧ sc1 = fgS (u1 sc 0 0) ∧ ((∀ a, a ≠ 243 → a ≠ 244 → al1 a = al a) ∧ (∀ i : Nat, (i : Int) < sc 4 → sorS sc1 ai1 al al1 i) ∧ sorS sc1 ai1 al al1 68)) ∧ r = some (.int (vz q)) ∧ tmok ai1 ∧ tm sc1 ai1 al1 az v0 v1))) ∧ (∀ (vh : vm_H) (sc_ : Nat → Int) (ai_ : Nat → Nat → Int) (x3 : Int), (tm sc_ ai_ al az v0 vh) → (tmok ai_) → (0 ≤ x3 ∧ x3 < sc 1) → (sc_ = u1 sc 0 0) → (((0 ≤ i1 ∧ i1 < sc 1) ∧ (0 ≤ i2 ∧ i2 < sc 1))) → (∃ f : Nat, ((f : Int) < sc 1 ∧ ai 240 f = i2 ∧ (f : Int) ≠ i1) ∧ mwA ai ai_ f x3 ∧ (f : Int) ≤ x3 ∧ (x3 ≤ i1 ∨ x3 = (f : Int))) → ((3000 - x3 : Int).toNat < N) → vm_Wp 3 77 106 56 [some (.ref 238), some (.int (vz i1)), some (.int (vz i2)), some (.int (vz x3)), none] [] vh (vq_P 106 (fun r v1 => ∃ (sc1 : Nat → Int) (ai1 : Nat → Nat → Int) (al1 : Nat → Nat → Int64) (q : Int), ((sc1 = u1 sc 0 0 ∧ ai1 = ai ∧ al1 = al ∧ (¬ ((0 ≤ i1 ∧ i1 < sc 1) ∧ (0 ≤ i2 ∧ i2 < sc 1)) ∨ ((0 ≤ i1 ∧ i1 < sc 1) ∧ ai 240 (i1).toNat = i2))) ∨ ∃ f : Nat, ((f : Int) < sc 1 ∧ ai 240 f = i2 ∧ (f : Int) ≠ i1) ∧ ((0 ≤ i1 ∧ i1 < sc 1) ∧ (0 ≤ i2 ∧ i2 < sc 1)) ∧ ((∀ b, b ≠ 240 → ai1 b = ai b) ∧ ai1 240 = mvF (ai 240) f (i1).toNat) ∧ sc1 = fgS (u1 sc 0 0) ∧ ((∀ a, a ≠ 243 → a ≠ 244 → al1 a = al a) ∧ (∀ i : Nat, (i : Int) < sc 4 → sorS sc1 ai1 al al1 i) ∧ sorS sc1 ai1 al al1 68)) ∧ r = some (.int (vz q)) ∧ tmok ai1 ∧ tm sc1 ai1 al1 az v0 v1))) ∧ (∀ (vh : vm_H) (sc_ : Nat → Int) (ai_ : Nat → Nat → Int) (x3 : Int), (tm sc_ ai_ al az v0 vh) → (tmok ai_) → (0 ≤ x3 ∧ x3 < sc 1) → (sc_ = u1 sc 0 0) → (((0 ≤ i1 ∧ i1 < sc 1) ∧ (0 ≤ i2 ∧ i2 < sc 1))) → (∃ f : Nat, ((f : Int) < sc 1 ∧ ai 240 f = i2 ∧ (f : Int) ≠ i1) ∧ mwB ai ai_ f (i1).toNat x3 ∧ ((f : Int) < i1 ∧ x3 = i1 ∨ (i1 < (f : Int) ∧ i1 ≤ x3 ∧ x3 ≤ (f : Int)))) → ((1000 + x3 : Int).toNat < N) → vm_Wp 3 77 106 81 [some (.ref 238), some (.int (vz i1)), some (.int (vz i2)), some (.int (vz x3)), none] [] vh (vq_P 106 (fun r v1 => ∃ (sc1 : Nat → Int) (ai1 : Nat → Nat → Int) (al1 : Nat → Nat → Int64) (q : Int), ((sc1 = u1 sc 0 0 ∧ ai1 = ai ∧ al1 = al ∧ (¬ ((0 ≤ i1 ∧ i1 < sc 1) ∧ (0 ≤ i2 ∧ i2 < sc 1)) ∨ ((0 ≤ i1 ∧ i1 < sc 1) ∧ ai 240 (i1).toNat = i2))) ∨ ∃ f : Nat, ((f : Int) < sc 1 ∧ ai 240 f = i2 ∧ (f : Int) ≠ i1) ∧ ((0 ≤ i1 ∧ i1 < sc 1) ∧ (0 ≤ i2 ∧ i2 < sc 1)) ∧ ((∀ b, b ≠ 240 → ai1 b = ai b) ∧ ai1 240 = mvF (ai 240) f (i1).toNat) ∧ sc1 = fgS (u1 sc 0 0) ∧ ((∀ a, a ≠ 243 → a ≠ 244 → al1 a = al a) ∧ (∀ i : Nat, (i : Int) < sc 4 → sorS sc1 ai1 al al1 i) ∧ sorS sc1 ai1 al al1 68)) ∧ r = some (.int (vz q)) ∧ tmok ai1 ∧ tm sc1 ai1 al1 az v0 v1))) ∧ (∀ (vh : vm_H) (sc_ : Nat → Int) (ai_ : Nat → Nat → Int) (al_ : Nat → Nat → Int64) (x4 : Int), (tm sc_ ai_ al_ az v0 vh) → (tmok ai_) → (0 ≤ x4 ∧ x4 ≤ sc 4) → (∃ f : Nat, ((f : Int) < sc 1 ∧ ai 240 f = i2 ∧ (f : Int) ≠ i1) ∧ (∀ b, b ≠ 240 → ai_ b = ai b) ∧ ai_ 240 = mvF (ai 240) f (i1).toNat) → (sc_ = fgS (u1 sc 0 0)) → (osI sc_ ai_ al al_ x4) → (((0 ≤ i1 ∧ i1 < sc 1) ∧ (0 ≤ i2 ∧ i2 < sc 1))) → ((500 - x4 : Int).toNat < N) → vm_Wp 3 77 106 120 [some (.ref 238), some (.int (vz i1)), some (.int (vz i2)), none, some (.int (vz x4))] [] vh (vq_P 106 (fun r v1 => ∃ (sc1 : Nat → Int) (ai1 : Nat → Nat → Int) (al1 : Nat → Nat → Int64) (q : Int), ((sc1 = u1 sc 0 0 ∧ ai1 = ai ∧ al1 = al ∧ (¬ ((0 ≤ i1 ∧ i1 < sc 1) ∧ (0 ≤ i2 ∧ i2 < sc 1)) ∨ ((0 ≤ i1 ∧ i1 < sc 1) ∧ ai 240 (i1).toNat = i2))) ∨ ∃ f : Nat, ((f : Int) < sc 1 ∧ ai 240 f = i2 ∧ (f : Int) ≠ i1) ∧ ((0 ≤ i1 ∧ i1 < sc 1) ∧ (0 ≤ i2 ∧ i2 < sc 1)) ∧ ((∀ b, b ≠ 240 → ai1 b = ai b) ∧ ai1 240 = mvF (ai 240) f (i1).toNat) ∧ sc1 = fgS (u1 sc 0 0) ∧ ((∀ a, a ≠ 243 → a ≠ 244 → al1 a = al a) ∧ (∀ i : Nat, (i : Int) < sc 4 → sorS sc1 ai1 al al1 i) ∧ sorS sc1 ai1 al al1 68)) ∧ r = some (.int (vz q)) ∧ tmok ai1 ∧ tm sc1 ai1 al1 az v0 v1))) := by
  intro N
  induction N with
  | zero => exact ⟨by intros; omega, by intros; omega, by intros; omega, by intros; omega⟩
  | succ N ih =>
    refine ⟨?_, ?_, ?_, ?_⟩
    ·
      intro vh sc_ x3 hM hx3 hi0q hi1 hi2 hN
      have hb33 := o33_b hi2
      refine w_ldA e106_33 (fun _ => rfl) rfl ?_
      have e13 := tm_o hM
      refine w_get e106_34 e13 rfl ?_
      refine w_ldI e106_37 (fun _ => rfl) rfl ?_
      have e14 := tm_i hM (a := 240) (n := 8) rfl
      refine w_ald e106_38 e14 (by omega) (by omega) (by decide) ?_
      show vm_Wp _ _ _ 39 _ [.int (vz (ai 240 (x3).toNat))] _ _
      have hk15 := hK.2 (x3).toNat
      refine w_ldI e106_39 (fun _ => rfl) rfl ?_
      refine w_ic e106_40 (tm_r hM 240 (x3).toNat) hi_2 (fun (h16q : ai 240 (x3).toNat = i2) => ?_) (fun (h16q : ai 240 (x3).toNat ≠ i2) => ?_)
      ·
        refine w_ldI e106_49 (fun _ => rfl) rfl ?_
        refine w_ldI e106_50 (fun _ => rfl) rfl ?_
        refine w_ic e106_51 (by omega) hi_1 (fun (h17 : x3 ≠ i1) => ?_) (fun (h17 : x3 = i1) => ?_)
        ·
          exact w_sub (A1 := [some (.ref 238), some (.int (vz i1)), some (.int (vz i2)), some (.int (vz x3)), none]) (And.intro rfl (And.intro rfl (And.intro rfl (And.intro rfl trivial)))) ((ih.2.1) vh sc_ ai x3 hM hK (by omega) hi0q hi1 ⟨(x3).toNat, ⟨by omega, h16q, by omega⟩, mwA_0 (by omega), by omega, by omega⟩ (by omega))
        ·
          refine w_kI e106_54 ?_
          exact w_rz e106_55 rfl (by omega) ⟨sc_, ai, al, 1, Or.inl ⟨hi0q, rfl, rfl, Or.inr ⟨by omega, by have h9 := h16q; rw [show x3 = i1 by omega] at h9; exact h9⟩⟩, rfl, hK, hM⟩
      ·
        refine w_iinc (A1 := [some (.ref 238), some (.int (vz i1)), some (.int (vz i2)), some (.int (vz (x3 + 1))), none]) e106_43 rfl (by decide) rfl ?_
        have hb43 := o33_b (o33_s hi2 h16q hx3.1)
        refine w_x e106_46 (fun _ => rfl) ?_
        exact w_sub (A1 := [some (.ref 238), some (.int (vz i1)), some (.int (vz i2)), some (.int (vz (x3 + 1))), none]) (And.intro rfl (And.intro rfl (And.intro rfl (And.intro rfl trivial)))) ((ih.1) vh sc_ (x3 + 1) hM (by omega) hi0q hi1 (o33_s hi2 h16q hx3.1) (by omega))
    ·
      intro vh sc_ ai_ x3 hM hK_ hx3 hi0q hi1 hi2 hN
      have hi2b := hi2
      obtain ⟨f, hff, hmw, hfx, hxi⟩ := hi2b
      refine w_ldI e106_56 (fun _ => rfl) rfl ?_
      refine w_ldI e106_57 (fun _ => rfl) rfl ?_
      refine w_ic e106_58 (by omega) hi_1 (fun (h18 : i1 ≤ x3) => ?_) (fun (h18 : x3 < i1) => ?_)
      ·
        exact w_sub (A1 := [some (.ref 238), some (.int (vz i1)), some (.int (vz i2)), some (.int (vz x3)), none]) (And.intro rfl (And.intro rfl (And.intro rfl (And.intro rfl trivial)))) ((ih.2.2.1) vh sc_ ai_ x3 hM hK_ (by omega) hi0q hi1 ⟨f, hff, mwB_0 (t := (i1).toNat) hmw (by omega) (by omega) (by omega), by omega⟩ (by omega))
      ·
        refine w_ldA e106_61 (fun _ => rfl) rfl ?_
        have e19 := tm_o hM
        refine w_get e106_62 e19 rfl ?_
        refine w_ldI e106_65 (fun _ => rfl) rfl ?_
        refine w_ldA e106_66 (fun _ => rfl) rfl ?_
        refine w_get e106_67 e19 rfl ?_
        refine w_ldI e106_70 (fun _ => rfl) rfl ?_
        refine w_kI e106_71 ?_
        refine w_iadd e106_72 ?_
        have e20 := tm_i hM (a := 240) (n := 8) rfl
        refine w_ald e106_73 e20 (by omega) (by omega) (by decide) ?_
        show vm_Wp _ _ _ 74 _ [.int (vz (ai_ 240 (x3 + 1).toNat)), .int (vz x3), .ref 240] _ _
        have hk21 := hK_.2 (x3 + 1).toNat
        refine w_ast e106_74 e20 (by omega) (by omega) (by decide) (by decide) (fun v24 b22 h23 => ?_)
        obtain ⟨ai25, hd27, hM26⟩ : ∃ z, z = u2 ai_ 240 (x3).toNat (ai_ 240 (x3 + 1).toNat) ∧ tm sc_ z al az v0 v24 := ⟨_, rfl, tm_pi hM rfl (tm_r hM 240 (x3 + 1).toNat) b22 h23⟩
        have hK28 : tmok ai25 := by rw [hd27]; exact tmok_o hK_ (by omega)
        refine w_iinc (A1 := [some (.ref 238), some (.int (vz i1)), some (.int (vz i2)), some (.int (vz (x3 + 1))), none]) e106_75 rfl (by decide) rfl ?_
        refine w_x e106_78 (fun _ => rfl) ?_
        exact w_sub (A1 := [some (.ref 238), some (.int (vz i1)), some (.int (vz i2)), some (.int (vz (x3 + 1))), none]) (And.intro rfl (And.intro rfl (And.intro rfl (And.intro rfl trivial)))) ((ih.2.1) v24 sc_ ai25 (x3 + 1) hM26 hK28 (by omega) hi0q hi1 ⟨f, hff, mwA_s hmw (by omega) rfl rfl hd27, by omega, by omega⟩ (by omega))
    ·
      intro vh sc_ ai_ x3 hM hK_ hx3 hi0q hi1 hi2 hN
      have hi2b := hi2
      obtain ⟨f, hff, hmw, hfx⟩ := hi2b
      refine w_ldI e106_81 (fun _ => rfl) rfl ?_
      refine w_ldI e106_82 (fun _ => rfl) rfl ?_
      refine w_ic e106_83 (by omega) hi_1 (fun (h29 : x3 ≤ i1) => ?_) (fun (h29 : i1 < x3) => ?_)
      ·
        refine w_ldA e106_106 (fun _ => rfl) rfl ?_
        have e30 := tm_o hM
        refine w_get e106_107 e30 rfl ?_
        refine w_ldI e106_110 (fun _ => rfl) rfl ?_
        refine w_ldI e106_111 (fun _ => rfl) rfl ?_
        have e31 := tm_i hM (a := 240) (n := 8) rfl
        refine w_ast e106_112 e31 (by omega) (by omega) (by decide) (by decide) (fun v34 b32 h33 => ?_)
        obtain ⟨ai35, hd37, hM36⟩ : ∃ z, z = u2 ai_ 240 (i1).toNat i2 ∧ tm sc_ z al az v0 v34 := ⟨_, rfl, tm_pi hM rfl hi_2 b32 h33⟩
        have hK38 : tmok ai35 := by rw [hd37]; exact tmok_o hK_ (by omega)
        refine w_ldA e106_113 (fun _ => rfl) rfl ?_
        have e39 := tm_o hM36
        refine w_cv e106_114 (by decide) rfl e39 rfl (Nat.le_of_ble_eq_true rfl) (Nat.le_of_ble_eq_true rfl) (Nat.le_of_ble_eq_true rfl) (by decide) (by decide) (c101 hM36 hK38) (fun o40 v41 hq42 => ?_)
        obtain ⟨hM43, rfl⟩ := hq42
        have hs9 : (fgS sc_) 4 = sc 4 := by rw [fgS_o (by omega), hi0q, u1_o (by decide)]
        refine w_kI e106_117 ?_
        refine w_stI (j := 4) (A1 := [some (.ref 238), some (.int (vz i1)), some (.int (vz i2)), some (.int (vz x3)), some (.int (vz 0))]) e106_118 (fun _ => rfl) (by decide) rfl ?_
        exact w_sub (A1 := [some (.ref 238), some (.int (vz i1)), some (.int (vz i2)), none, some (.int (vz 0))]) (And.intro rfl (And.intro rfl (And.intro rfl (And.intro rfl trivial)))) ((ih.2.2.2) v41 ((fgS sc_)) ai35 al 0 hM43 hK38 (by omega) ⟨f, hff, mwB_e hmw (by omega) (by omega) rfl hff.2.1.symm hd37⟩ (by rw [hi0q]) os_0 hi1 (by omega))
      ·
        refine w_ldA e106_86 (fun _ => rfl) rfl ?_
        have e44 := tm_o hM
        refine w_get e106_87 e44 rfl ?_
        refine w_ldI e106_90 (fun _ => rfl) rfl ?_
        refine w_ldA e106_91 (fun _ => rfl) rfl ?_
        refine w_get e106_92 e44 rfl ?_
        refine w_ldI e106_95 (fun _ => rfl) rfl ?_
        refine w_kI e106_96 ?_
        refine w_isub e106_97 ?_
        have e45 := tm_i hM (a := 240) (n := 8) rfl
        refine w_ald e106_98 e45 (by omega) (by omega) (by decide) ?_
        show vm_Wp _ _ _ 99 _ [.int (vz (ai_ 240 (x3 - 1).toNat)), .int (vz x3), .ref 240] _ _
        have hk46 := hK_.2 (x3 - 1).toNat
        refine w_ast e106_99 e45 (by omega) (by omega) (by decide) (by decide) (fun v49 b47 h48 => ?_)
        obtain ⟨ai50, hd52, hM51⟩ : ∃ z, z = u2 ai_ 240 (x3).toNat (ai_ 240 (x3 - 1).toNat) ∧ tm sc_ z al az v0 v49 := ⟨_, rfl, tm_pi hM rfl (tm_r hM 240 (x3 - 1).toNat) b47 h48⟩
        have hK53 : tmok ai50 := by rw [hd52]; exact tmok_o hK_ (by omega)
        refine w_iinc (A1 := [some (.ref 238), some (.int (vz i1)), some (.int (vz i2)), some (.int (vz (x3 + (-1)))), none]) e106_100 rfl (by decide) rfl ?_
        refine w_x e106_103 (fun _ => rfl) ?_
        exact w_sub (A1 := [some (.ref 238), some (.int (vz i1)), some (.int (vz i2)), some (.int (vz (x3 + (-1)))), none]) (And.intro rfl (And.intro rfl (And.intro rfl (And.intro rfl trivial)))) ((ih.2.2.1) v49 sc_ ai50 (x3 + (-1)) hM51 hK53 (by omega) hi0q hi1 ⟨f, hff, mwB_s hmw (by omega) (by omega) rfl rfl hd52, by omega⟩ (by omega))
    ·
      intro vh sc_ ai_ al_ x4 hM hK_ hx4 hi0q hi1 hi2 hi3 hN
      have hi0b := hi0q
      obtain ⟨f, hff, hmw⟩ := hi0b
      have hs4 : sc_ 4 = sc 4 := by rw [hi1, fgS_o (by omega), u1_o (by decide)]
      have hs1 : sc_ 1 = sc 1 := by rw [hi1, fgS_o (by omega), u1_o (by decide)]
      refine w_ldI e106_120 (fun _ => rfl) rfl ?_
      refine w_ldA e106_122 (fun _ => rfl) rfl ?_
      have e54 := tm_o hM
      refine w_get e106_123 e54 rfl ?_
      refine w_ic e106_126 (by omega) (tm_s hM 4) (fun (h55 : sc_ 4 ≤ x4) => ?_) (fun (h55 : x4 < sc_ 4) => ?_)
      ·
        refine w_ldA e106_141 (fun _ => rfl) rfl ?_
        refine w_kB e106_142 rfl ?_
        refine w_cv e106_144 (by decide) rfl e54 rfl (Nat.le_of_ble_eq_true rfl) (Nat.le_of_ble_eq_true rfl) (Nat.le_of_ble_eq_true rfl) (by decide) (by decide) (r80c hM hK_ (by omega) (by omega)) (fun o56 v57 hq58 => ?_)
        obtain ⟨⟨al59, ⟨hf60, hp61, hs62⟩, hM63⟩, rfl⟩ := hq58
        refine w_kI e106_147 ?_
        exact w_rz e106_148 rfl (by omega) ⟨sc_, ai_, al59, 1, Or.inr ⟨f, hff, hi3, hmw, hi1, osx_c hi2 hf60 hs62 hK_ (by omega)⟩, rfl, hK_, hM63⟩
      ·
        refine w_ldA e106_129 (fun _ => rfl) rfl ?_
        refine w_ldI e106_130 (fun _ => rfl) rfl ?_
        refine w_cv e106_132 (by decide) rfl e54 rfl (Nat.le_of_ble_eq_true rfl) (Nat.le_of_ble_eq_true rfl) (Nat.le_of_ble_eq_true rfl) (by decide) (by decide) (r80c hM hK_ (by omega) (by omega)) (fun o64 v65 hq66 => ?_)
        obtain ⟨⟨al67, ⟨hf68, hp69, hs70⟩, hM71⟩, rfl⟩ := hq66
        refine w_iinc (A1 := [some (.ref 238), some (.int (vz i1)), some (.int (vz i2)), none, some (.int (vz (x4 + 1)))]) e106_135 rfl (by decide) rfl ?_
        refine w_x e106_138 (fun _ => rfl) ?_
        exact w_sub (A1 := [some (.ref 238), some (.int (vz i1)), some (.int (vz i2)), none, some (.int (vz (x4 + 1)))]) (And.intro rfl (And.intro rfl (And.intro rfl (And.intro rfl trivial)))) ((ih.2.2.2) v65 sc_ ai_ al67 (x4 + 1) hM71 hK_ (by omega) hi0q hi1 (os_s hi2 (by omega) hK_ hf68 hs70) hi3 (by omega))
set_option maxRecDepth 100000 in
set_option maxHeartbeats 4000000 in
theorem r106c {sc : Nat → Int} {ai : Nat → Nat → Int} {al : Nat → Nat → Int64} {az : Nat → Nat → Int32} {v0 vh : vm_H} (hM : tm sc ai al az v0 vh) (hK : tmok ai) {i1 : Int} (hi_1 : -2147483648 ≤ i1 ∧ i1 < 2147483648) {i2 : Int} (hi_2 : -2147483648 ≤ i2 ∧ i2 < 2147483648) (hn : 0 ≤ sc 1 ∧ sc 1 ≤ 8) (hp : 0 ≤ sc 4 ∧ sc 4 ≤ 16) (hsj : ∀ v : Int, 0 ≤ v → v < sc 1 → ∃ j : Nat, (j : Int) < sc 1 ∧ ai 240 j = v) : vm_Rp 3 77 106 [.ref 238, .int (vz i1), .int (vz i2)] vh (fun r v1 => ∃ (sc1 : Nat → Int) (ai1 : Nat → Nat → Int) (al1 : Nat → Nat → Int64) (q : Int), ((sc1 = u1 sc 0 0 ∧ ai1 = ai ∧ al1 = al ∧ (¬ ((0 ≤ i1 ∧ i1 < sc 1) ∧ (0 ≤ i2 ∧ i2 < sc 1)) ∨ ((0 ≤ i1 ∧ i1 < sc 1) ∧ ai 240 (i1).toNat = i2))) ∨ ∃ f : Nat, ((f : Int) < sc 1 ∧ ai 240 f = i2 ∧ (f : Int) ≠ i1) ∧ ((0 ≤ i1 ∧ i1 < sc 1) ∧ (0 ≤ i2 ∧ i2 < sc 1)) ∧ ((∀ b, b ≠ 240 → ai1 b = ai b) ∧ ai1 240 = mvF (ai 240) f (i1).toNat) ∧ sc1 = fgS (u1 sc 0 0) ∧ ((∀ a, a ≠ 243 → a ≠ 244 → al1 a = al a) ∧ (∀ i : Nat, (i : Int) < sc 4 → sorS sc1 ai1 al al1 i) ∧ sorS sc1 ai1 al al1 68)) ∧ r = some (.int (vz q)) ∧ tmok ai1 ∧ tm sc1 ai1 al1 az v0 v1) := by
  refine w_in (m := 2) ?_
  show vm_Wp _ _ _ 0 [some (.ref 238), some (.int (vz i1)), some (.int (vz i2)), none, none] [] _ _
  refine w_ldA e106_0 (fun _ => rfl) rfl ?_
  refine w_kI e106_1 ?_
  have e1 := tm_o hM
  refine w_put e106_2 e1 (Nat.le_of_ble_eq_true rfl) rfl (fun v4 b2 h3 => ?_)
  obtain ⟨sc5, hd7, hM6⟩ : ∃ z, z = u1 sc 0 (0) ∧ tm z ai al az v0 v4 := ⟨_, rfl, tm_ps 0 hM (by omega) b2 h3⟩
  have hs1 : sc5 1 = sc 1 := by rw [hd7, u1_o (by decide)]
  have hs4 : sc5 4 = sc 4 := by rw [hd7, u1_o (by decide)]
  refine w_ldI e106_5 (fun _ => rfl) rfl ?_
  refine w_if e106_6 hi_2 (fun (h8 : i2 < 0) => ?_) (fun (h8 : 0 ≤ i2) => ?_)
  ·
    refine w_kI e106_29 ?_
    exact w_rz e106_30 rfl (by omega) ⟨sc5, ai, al, 0, Or.inl ⟨hd7, rfl, rfl, Or.inl (by omega)⟩, rfl, hK, hM6⟩
  ·
    refine w_ldI e106_9 (fun _ => rfl) rfl ?_
    refine w_ldA e106_10 (fun _ => rfl) rfl ?_
    have e9 := tm_o hM6
    refine w_get e106_11 e9 rfl ?_
    refine w_ic e106_14 hi_2 (tm_s hM6 1) (fun (h10 : sc5 1 ≤ i2) => ?_) (fun (h10 : i2 < sc5 1) => ?_)
    ·
      refine w_kI e106_29 ?_
      exact w_rz e106_30 rfl (by omega) ⟨sc5, ai, al, 0, Or.inl ⟨hd7, rfl, rfl, Or.inl (by omega)⟩, rfl, hK, hM6⟩
    ·
      refine w_ldI e106_17 (fun _ => rfl) rfl ?_
      refine w_if e106_18 hi_1 (fun (h11 : i1 < 0) => ?_) (fun (h11 : 0 ≤ i1) => ?_)
      ·
        refine w_kI e106_29 ?_
        exact w_rz e106_30 rfl (by omega) ⟨sc5, ai, al, 0, Or.inl ⟨hd7, rfl, rfl, Or.inl (by omega)⟩, rfl, hK, hM6⟩
      ·
        refine w_ldI e106_21 (fun _ => rfl) rfl ?_
        refine w_ldA e106_22 (fun _ => rfl) rfl ?_
        refine w_get e106_23 e9 rfl ?_
        refine w_ic e106_26 hi_1 (tm_s hM6 1) (fun (h12 : i1 < sc5 1) => ?_) (fun (h12 : sc5 1 ≤ i1) => ?_)
        ·
          refine w_kI e106_31 ?_
          refine w_stI (j := 3) (A1 := [some (.ref 238), some (.int (vz i1)), some (.int (vz i2)), some (.int (vz 0)), none]) e106_32 (fun _ => rfl) (by decide) rfl ?_
          exact w_sub (A1 := [some (.ref 238), some (.int (vz i1)), some (.int (vz i2)), some (.int (vz 0)), none]) (And.intro rfl (And.intro rfl (And.intro rfl (And.intro rfl trivial)))) (((r106c_L (sc := sc) (ai := ai) (al := al) (az := az) (v0 := v0) (i1 := i1) (i2 := i2) hK hi_1 hi_2 hn hp hsj _).1) v4 sc5 0 hM6 (by omega) hd7 (by omega) (by obtain ⟨j, h8, h9⟩ := hsj i2 (by omega) (by omega); exact ⟨j, by omega, h8, h9⟩) (Nat.lt_succ_self _))
        ·
          refine w_kI e106_29 ?_
          exact w_rz e106_30 rfl (by omega) ⟨sc5, ai, al, 0, Or.inl ⟨hd7, rfl, rfl, Or.inl (by omega)⟩, rfl, hK, hM6⟩
set_option maxRecDepth 100000 in
set_option maxHeartbeats 4000000 in
theorem r117 {sc : Nat → Int} {ai : Nat → Nat → Int} {al : Nat → Nat → Int64} {az : Nat → Nat → Int32} {v0 vh : vm_H} (hM : tm sc ai al az v0 vh) (hK : tmok ai) {i1 : Int} (hi_1 : -2147483648 ≤ i1 ∧ i1 < 2147483648) {l_2 : Int64} (hn : 0 ≤ sc 1 ∧ sc 1 ≤ 8) : vm_Rp 0 0 117 [.ref 238, .int (vz i1), .long l_2] vh (fun r v1 => ∃ (sc1 : Nat → Int) (al1 : Nat → Nat → Int64) (q : Int), sc1 = u1 sc 0 0 ∧ ((q = 0 ∧ ¬ (0 ≤ i1 ∧ i1 < sc 1) ∧ al1 = al) ∨ (q = 1 ∧ (0 ≤ i1 ∧ i1 < sc 1) ∧ al1 = u2 al 245 (i1).toNat l_2)) ∧ r = some (.int (vz q)) ∧ tmok ai ∧ tm sc1 ai al1 az v0 v1) := by
  refine w_in (m := 0) ?_
  show vm_Wp _ _ _ 0 [some (.ref 238), some (.int (vz i1)), some (.long l_2), none] [] _ _
  refine w_ldA e117_0 (fun _ => rfl) rfl ?_
  refine w_kI e117_1 ?_
  have e1 := tm_o hM
  refine w_put e117_2 e1 (Nat.le_of_ble_eq_true rfl) rfl (fun v4 b2 h3 => ?_)
  obtain ⟨sc5, hd7, hM6⟩ : ∃ z, z = u1 sc 0 (0) ∧ tm z ai al az v0 v4 := ⟨_, rfl, tm_ps 0 hM (by omega) b2 h3⟩
  have hs1 : sc5 1 = sc 1 := by rw [hd7, u1_o (by decide)]
  refine w_ldI e117_5 (fun _ => rfl) rfl ?_
  refine w_if e117_6 hi_1 (fun (h8 : i1 < 0) => ?_) (fun (h8 : 0 ≤ i1) => ?_)
  ·
    refine w_kI e117_17 ?_
    exact w_rz e117_18 rfl (by omega) ⟨sc5, al, 0, hd7, Or.inl ⟨rfl, by omega, rfl⟩, rfl, hK, hM6⟩
  ·
    refine w_ldI e117_9 (fun _ => rfl) rfl ?_
    refine w_ldA e117_10 (fun _ => rfl) rfl ?_
    have e9 := tm_o hM6
    refine w_get e117_11 e9 rfl ?_
    refine w_ic e117_14 hi_1 (tm_s hM6 1) (fun (h10 : i1 < sc5 1) => ?_) (fun (h10 : sc5 1 ≤ i1) => ?_)
    ·
      refine w_ldA e117_19 (fun _ => rfl) rfl ?_
      refine w_get e117_20 e9 rfl ?_
      refine w_ldI e117_23 (fun _ => rfl) rfl ?_
      refine w_ldL e117_24 (fun _ => rfl) rfl ?_
      have e11 := tm_l hM6 (a := 245) (n := 8) rfl
      refine w_lst e117_25 e11 (by omega) (by omega) (by decide) (fun v14 b12 h13 => ?_)
      obtain ⟨al15, hd17, hM16⟩ : ∃ z, z = u2 al 245 (i1).toNat l_2 ∧ tm sc5 ai z az v0 v14 := ⟨_, rfl, tm_pl hM6 rfl b12 h13⟩
      refine w_kI e117_26 ?_
      exact w_rz e117_27 rfl (by omega) ⟨sc5, al15, 1, hd7, Or.inr ⟨rfl, by omega, hd17⟩, rfl, hK, hM16⟩
    ·
      refine w_kI e117_17 ?_
      exact w_rz e117_18 rfl (by omega) ⟨sc5, al, 0, hd7, Or.inl ⟨rfl, by omega, rfl⟩, rfl, hK, hM6⟩
