set_option maxRecDepth 100000 in
set_option maxHeartbeats 4000000 in
theorem k64c_L {Z : Nat → Nat → Int} {al : Nat → Nat → Int64} {ai : Nat → Nat → Int} {az : Nat → Nat → Int32} {mm : Nat → Option Nat} {sk : Nat} {v0 : vm_H} (hk : kn Z) {i1 : Int} (hi_1 : 0 ≤ i1 ∧ i1 < 8) {i2 : Int} (hi_2 : 0 ≤ i2 ∧ i2 < 8) (hn : 0 ≤ Z 2 0 ∧ Z 2 0 ≤ 8) (hv : ∀ j, 0 ≤ ai 5 j ∧ ai 5 j < 8) (hp : 0 ≤ Z 1 0 ∧ Z 1 0 ≤ 16) : ∀ N : Nat, (∀ (vh : vm_H) (al_ : Nat → Nat → Int64) (x3 : Int), (tk Z al_ ai az mm sk v0 vh) → (0 ≤ x3 ∧ x3 ≤ Z 1 0) → (∀ b, b < 8 ∨ 55 ≤ b → b ≠ 225 → b ≠ 226 → al_ b = al b) → (mk0 al al_) → ((1000 - x3 : Int).toNat < N) → vm_Wp 3 68 64 2 [some (.ref 1), some (.int (vz i1)), some (.int (vz i2)), some (.int (vz x3))] [] vh (vq_P 64 (fun r v1 => (∃ (al1 : Nat → Nat → Int64) (ai1 : Nat → Nat → Int), (∀ b, b < 8 ∨ 55 ≤ b → b ≠ 225 → b ≠ 226 → al1 b = al b) ∧ (((∀ b, b ≠ 5 → ai1 b = ai b) ∧ ai1 5 = mvF (ai 5) (i1).toNat (i2).toNat) ∧ mkD Z (ai 5) (ai1 5) al al1) ∧ tk Z al1 ai1 az mm sk v0 v1) ∧ r = none))) ∧ (∀ (vh : vm_H) (al_ : Nat → Nat → Int64) (ai_ : Nat → Nat → Int) (x3 : Int), (tk Z al_ ai_ az mm sk v0 vh) → (0 ≤ x3 ∧ x3 ≤ Z 1 0) → (∀ b, b < 8 ∨ 55 ≤ b → b ≠ 225 → b ≠ 226 → al_ b = al b) → (((∀ b, b ≠ 5 → ai_ b = ai b) ∧ ai_ 5 = mvF (ai 5) (i1).toNat (i2).toNat)) → (mkA Z (ai 5) al al_) → ((100 - x3 : Int).toNat < N) → vm_Wp 3 68 64 51 [some (.ref 1), some (.int (vz i1)), some (.int (vz i2)), some (.int (vz x3))] [] vh (vq_P 64 (fun r v1 => (∃ (al1 : Nat → Nat → Int64) (ai1 : Nat → Nat → Int), (∀ b, b < 8 ∨ 55 ≤ b → b ≠ 225 → b ≠ 226 → al1 b = al b) ∧ (((∀ b, b ≠ 5 → ai1 b = ai b) ∧ ai1 5 = mvF (ai 5) (i1).toNat (i2).toNat) ∧ mkD Z (ai 5) (ai1 5) al al1) ∧ tk Z al1 ai1 az mm sk v0 v1) ∧ r = none))) := by
  intro N
  induction N with
  | zero => exact ⟨by intros; omega, by intros; omega⟩
  | succ N ih =>
    refine ⟨?_, ?_⟩
    ·
      intro vh al_ x3 hM hx3 hi0q hi1 hN
      refine w_ldI e64_2 (fun _ => rfl) rfl ?_
      refine w_ldA e64_3 (fun _ => rfl) rfl ?_
      have e1 := tk_main hM
      refine w_get e64_4 e1 rfl ?_
      refine w_ic e64_7 (by omega) (tk_r hM 1 0) (fun (h2 : Z 1 0 ≤ x3) => ?_) (fun (h2 : x3 < Z 1 0) => ?_)
      ·
        refine w_ldA e64_29 (fun _ => rfl) rfl ?_
        refine w_get e64_30 e1 rfl ?_
        refine w_ldA e64_33 (fun _ => rfl) rfl ?_
        refine w_get e64_34 e1 rfl ?_
        have e3 := tk_pla hM
        refine w_cv e64_37 (by decide) rfl e3 rfl (Nat.le_of_ble_eq_true rfl) (Nat.le_of_ble_eq_true rfl) (Nat.le_of_ble_eq_true rfl) (by decide) (by decide) (c10x (pm_in hM (rfl : ty 224 = 1)) (hk 224 (rfl : ty 224 = 1)) (tk_pla hM) (tk_vars hM) hn hv (by omega)) (fun o4 v5 hq6 => ?_)
        obtain ⟨⟨K7, hp8, hkk9⟩, rfl⟩ := hq6
        obtain ⟨al10, hd11, hM12⟩ : ∃ z, z = uP al_ 224 K7 (al_ (226)) ∧ tk Z z ai az mm sk v0 v5 := ⟨_, rfl, by have h9 := tk_pm hM (rfl : ty 224 = 1) (tk_r hM 224 0) hp8; rw [u2_self] at h9; exact h9⟩
        refine w_ldA e64_40 (fun _ => rfl) rfl ?_
        have e13 := tk_main hM12
        refine w_get e64_41 e13 rfl ?_
        refine w_ldI e64_44 (fun _ => rfl) rfl ?_
        refine w_ldI e64_45 (fun _ => rfl) rfl ?_
        have e14 := tk_pla hM12
        refine w_cv e64_46 (by decide) rfl e14 rfl (Nat.le_of_ble_eq_true rfl) (Nat.le_of_ble_eq_true rfl) (Nat.le_of_ble_eq_true rfl) (by decide) (by decide) (k6 hM12 hk (by omega) (by omega)) (fun o15 v16 hq17 => ?_)
        obtain ⟨⟨ai18, hm19, hM20⟩, rfl⟩ := hq17
        refine w_kI e64_49 ?_
        refine w_stI (j := 3) (A1 := [some (.ref 1), some (.int (vz i1)), some (.int (vz i2)), some (.int (vz 0))]) e64_50 (fun _ => rfl) (by decide) rfl ?_
        exact w_sub (A1 := [some (.ref 1), some (.int (vz i1)), some (.int (vz i2)), some (.int (vz 0))]) (And.intro rfl (And.intro rfl (And.intro rfl (And.intro rfl trivial)))) ((ih.2) v16 al10 ai18 0 hM20 (by omega) (fun b b1 b2 b3 => by rw [hd11, uP_o (by omega) (by omega)]; exact hi0q b b1 b2 b3) hm19 (mkA_s hi1 hkk9 hd11) (by omega))
      ·
        refine w_ldA e64_10 (fun _ => rfl) rfl ?_
        refine w_get e64_11 e1 rfl ?_
        refine w_ldA e64_14 (fun _ => rfl) rfl ?_
        refine w_get e64_15 e1 rfl ?_
        refine w_ldI e64_18 (fun _ => rfl) rfl ?_
        obtain ⟨f22, hf23, e21⟩ := tk_polys hM
        refine w_qld e64_19 e21 (by decide) (by omega) (by omega) (by decide) (hf23 _ (by omega)) ?_
        have e24 := tk_pla hM
        refine w_cv e64_20 (by decide) rfl e24 rfl (Nat.le_of_ble_eq_true rfl) (Nat.le_of_ble_eq_true rfl) (Nat.le_of_ble_eq_true rfl) (by decide) (by decide) (c10x (pm_in hM (ty_pi ((x3).toNat) (by omega))) (hk (7 + 3 * (x3).toNat) (ty_pi ((x3).toNat) (by omega))) (tk_pla hM) (tk_vars hM) hn hv (by omega)) (fun o25 v26 hq27 => ?_)
        obtain ⟨⟨K28, hp29, hkk30⟩, rfl⟩ := hq27
        obtain ⟨al31, hd32, hM33⟩ : ∃ z, z = uP al_ (7 + 3 * (x3).toNat) K28 (al_ (7 + 3 * (x3).toNat + 2)) ∧ tk Z z ai az mm sk v0 v26 := ⟨_, rfl, by have h9 := tk_pm hM (ty_pi ((x3).toNat) (by omega)) (tk_r hM (7 + 3 * (x3).toNat) 0) hp29; rw [u2_self] at h9; exact h9⟩
        refine w_iinc (A1 := [some (.ref 1), some (.int (vz i1)), some (.int (vz i2)), some (.int (vz (x3 + 1)))]) e64_23 rfl (by decide) rfl ?_
        refine w_x e64_26 (fun _ => rfl) ?_
        exact w_sub (A1 := [some (.ref 1), some (.int (vz i1)), some (.int (vz i2)), some (.int (vz (x3 + 1)))]) (And.intro rfl (And.intro rfl (And.intro rfl (And.intro rfl trivial)))) ((ih.1) v26 al31 (x3 + 1) hM33 (by omega) (fun b b1 b2 b3 => by rw [hd32, uP_o (by omega) (by omega)]; exact hi0q b b1 b2 b3) (mk0_s (i := (x3).toNat) hi1 (by omega) hd32) (by omega))
    ·
      intro vh al_ ai_ x3 hM hx3 hi0q hi1 hi2 hN
      have hv_ : ∀ j, 0 ≤ ai_ 5 j ∧ ai_ 5 j < 8 := by rw [hi1.2]; exact mvF_b hv
      refine w_ldI e64_51 (fun _ => rfl) rfl ?_
      refine w_ldA e64_52 (fun _ => rfl) rfl ?_
      have e34 := tk_main hM
      refine w_get e64_53 e34 rfl ?_
      refine w_ic e64_56 (by omega) (tk_r hM 1 0) (fun (h35 : Z 1 0 ≤ x3) => ?_) (fun (h35 : x3 < Z 1 0) => ?_)
      ·
        refine w_ldA e64_78 (fun _ => rfl) rfl ?_
        refine w_get e64_79 e34 rfl ?_
        refine w_ldA e64_82 (fun _ => rfl) rfl ?_
        refine w_get e64_83 e34 rfl ?_
        have e36 := tk_pla hM
        refine w_cv e64_86 (by decide) rfl e36 rfl (Nat.le_of_ble_eq_true rfl) (Nat.le_of_ble_eq_true rfl) (Nat.le_of_ble_eq_true rfl) (by decide) (by decide) (c11x (pm_in hM (rfl : ty 224 = 1)) (hk 224 (rfl : ty 224 = 1)) (tk_pla hM) (tk_vars hM) hn hv_ (by omega)) (fun o37 v38 hq39 => ?_)
        obtain ⟨⟨K40, F41, hp42, hkk43, hkk44⟩, rfl⟩ := hq39
        obtain ⟨al45, hd46, hM47⟩ : ∃ z, z = uP al_ 224 K40 F41 ∧ tk Z z ai_ az mm sk v0 v38 := ⟨_, rfl, by have h9 := tk_pm hM (rfl : ty 224 = 1) (tk_r hM 224 0) hp42; rw [u2_self] at h9; exact h9⟩
        exact w_rv e64_89 rfl ⟨⟨al45, ai_, (fun b b1 b2 b3 => by rw [hd46, uP_o (by omega) (by omega)]; exact hi0q b b1 b2 b3), ⟨hi1, mkD_s hi2 hkk43 hkk44 hd46⟩, hM47⟩, rfl⟩
      ·
        refine w_ldA e64_59 (fun _ => rfl) rfl ?_
        refine w_get e64_60 e34 rfl ?_
        refine w_ldA e64_63 (fun _ => rfl) rfl ?_
        refine w_get e64_64 e34 rfl ?_
        refine w_ldI e64_67 (fun _ => rfl) rfl ?_
        obtain ⟨f49, hf50, e48⟩ := tk_polys hM
        refine w_qld e64_68 e48 (by decide) (by omega) (by omega) (by decide) (hf50 _ (by omega)) ?_
        have e51 := tk_pla hM
        refine w_cv e64_69 (by decide) rfl e51 rfl (Nat.le_of_ble_eq_true rfl) (Nat.le_of_ble_eq_true rfl) (Nat.le_of_ble_eq_true rfl) (by decide) (by decide) (c11x (pm_in hM (ty_pi ((x3).toNat) (by omega))) (hk (7 + 3 * (x3).toNat) (ty_pi ((x3).toNat) (by omega))) (tk_pla hM) (tk_vars hM) hn hv_ (by omega)) (fun o52 v53 hq54 => ?_)
        obtain ⟨⟨K55, F56, hp57, hkk58, hkk59⟩, rfl⟩ := hq54
        obtain ⟨al60, hd61, hM62⟩ : ∃ z, z = uP al_ (7 + 3 * (x3).toNat) K55 F56 ∧ tk Z z ai_ az mm sk v0 v53 := ⟨_, rfl, by have h9 := tk_pm hM (ty_pi ((x3).toNat) (by omega)) (tk_r hM (7 + 3 * (x3).toNat) 0) hp57; rw [u2_self] at h9; exact h9⟩
        refine w_iinc (A1 := [some (.ref 1), some (.int (vz i1)), some (.int (vz i2)), some (.int (vz (x3 + 1)))]) e64_72 rfl (by decide) rfl ?_
        refine w_x e64_75 (fun _ => rfl) ?_
        exact w_sub (A1 := [some (.ref 1), some (.int (vz i1)), some (.int (vz i2)), some (.int (vz (x3 + 1)))]) (And.intro rfl (And.intro rfl (And.intro rfl (And.intro rfl trivial)))) ((ih.2) v53 al60 ai_ (x3 + 1) hM62 (by omega) (fun b b1 b2 b3 => by rw [hd61, uP_o (by omega) (by omega)]; exact hi0q b b1 b2 b3) hi1 (mkA_o (i := (x3).toNat) hi2 (by omega) hd61) (by omega))
set_option maxRecDepth 100000 in
set_option maxHeartbeats 4000000 in
theorem k64c {Z : Nat → Nat → Int} {al : Nat → Nat → Int64} {ai : Nat → Nat → Int} {az : Nat → Nat → Int32} {mm : Nat → Option Nat} {sk : Nat} {v0 vh : vm_H} (hM : tk Z al ai az mm sk v0 vh) (hk : kn Z) {i1 : Int} (hi_1 : 0 ≤ i1 ∧ i1 < 8) {i2 : Int} (hi_2 : 0 ≤ i2 ∧ i2 < 8) (hn : 0 ≤ Z 2 0 ∧ Z 2 0 ≤ 8) (hv : ∀ j, 0 ≤ ai 5 j ∧ ai 5 j < 8) (hp : 0 ≤ Z 1 0 ∧ Z 1 0 ≤ 16) : vm_Rp 3 68 64 [.ref 1, .int (vz i1), .int (vz i2)] vh (fun r v1 => (∃ (al1 : Nat → Nat → Int64) (ai1 : Nat → Nat → Int), (∀ b, b < 8 ∨ 55 ≤ b → b ≠ 225 → b ≠ 226 → al1 b = al b) ∧ (((∀ b, b ≠ 5 → ai1 b = ai b) ∧ ai1 5 = mvF (ai 5) (i1).toNat (i2).toNat) ∧ mkD Z (ai 5) (ai1 5) al al1) ∧ tk Z al1 ai1 az mm sk v0 v1) ∧ r = none) := by
  refine w_in (m := 1) ?_
  show vm_Wp _ _ _ 0 [some (.ref 1), some (.int (vz i1)), some (.int (vz i2)), none] [] _ _
  refine w_kI e64_0 ?_
  refine w_stI (j := 3) (A1 := [some (.ref 1), some (.int (vz i1)), some (.int (vz i2)), some (.int (vz 0))]) e64_1 (fun _ => rfl) (by decide) rfl ?_
  exact w_sub (A1 := [some (.ref 1), some (.int (vz i1)), some (.int (vz i2)), some (.int (vz 0))]) (And.intro rfl (And.intro rfl (And.intro rfl (And.intro rfl trivial)))) (((k64c_L (Z := Z) (al := al) (ai := ai) (az := az) (mm := mm) (sk := sk) (v0 := v0) (i1 := i1) (i2 := i2) hk hi_1 hi_2 hn hv hp _).1) vh al 0 hM (by omega) (fun _ _ _ _ => rfl) mk0_0 (Nat.lt_succ_self _))
set_option maxRecDepth 100000 in
set_option maxHeartbeats 4000000 in
theorem k45c {Z : Nat → Nat → Int} {al : Nat → Nat → Int64} {ai : Nat → Nat → Int} {az : Nat → Nat → Int32} {mm : Nat → Option Nat} {sk : Nat} {v0 vh : vm_H} (hM : tk Z al ai az mm sk v0 vh) (hk : kn Z) {i1 : Int} (hi_1 : -2147483648 ≤ i1 ∧ i1 < 2147483648) {i2 : Int} (hi_2 : -2147483648 ≤ i2 ∧ i2 < 2147483648) (hn : 0 ≤ Z 2 0 ∧ Z 2 0 ≤ 8) (hv : ∀ j, 0 ≤ ai 5 j ∧ ai 5 j < 8) (hp : 0 ≤ Z 1 0 ∧ Z 1 0 ≤ 16) : vm_Rp 4 91 45 [.ref 1, .int (vz i1), .int (vz i2)] vh (fun r v1 => ∃ (Z1 : Nat → Nat → Int) (al1 : Nat → Nat → Int64) (ai1 : Nat → Nat → Int) (q : Int), ((Z1 = Z ∧ al1 = al ∧ ai1 = ai ∧ (¬ ((0 ≤ i1 ∧ i1 < Z 2 0) ∧ (0 ≤ i2 ∧ i2 < Z 2 0)) ∨ (∀ j : Nat, (j : Int) < Z 2 0 → ai 5 j ≠ i2) ∨ ((0 ≤ i1 ∧ i1 < Z 2 0) ∧ ai 5 (i1).toNat = i2))) ∨ ∃ (f : Int) (aia : Nat → Nat → Int), ((0 ≤ i1 ∧ i1 < Z 2 0) ∧ (0 ≤ i2 ∧ i2 < Z 2 0)) ∧ f ≠ i1 ∧ ((0 ≤ f ∧ f < Z 2 0) ∧ ai 5 f.toNat = i2) ∧ ((∀ b, b < 8 ∨ 55 ≤ b → b ≠ 225 → b ≠ 226 → al1 b = al b) ∧ (∀ b, b ≠ 5 → aia b = ai b) ∧ aia 5 = mvF (ai 5) f.toNat (i1).toNat ∧ mkD Z (ai 5) (aia 5) al al1) ∧ fgO Z Z1 aia ai1) ∧ r = some (.int (vz q)) ∧ kn Z1 ∧ tk Z1 al1 ai1 az mm sk v0 v1) := by
  refine w_in (m := 1) ?_
  show vm_Wp _ _ _ 0 [some (.ref 1), some (.int (vz i1)), some (.int (vz i2)), none] [] _ _
  refine w_ldA e45_0 (fun _ => rfl) rfl ?_
  have e1 := tk_main hM
  refine w_get e45_1 e1 rfl ?_
  refine w_ldI e45_4 (fun _ => rfl) rfl ?_
  have e2 := tk_pla hM
  refine w_cv e45_5 (by decide) rfl e2 rfl (Nat.le_of_ble_eq_true rfl) (Nat.le_of_ble_eq_true rfl) (Nat.le_of_ble_eq_true rfl) (by decide) (by decide) (k2 hM hk hi_1) (fun o3 v4 hq5 => ?_)
  obtain ⟨rfl, q6, h7, rfl⟩ := hq5
  have hb8 := h7
  refine w_if e45_8 (by omega) (fun (h9 : q6 = 0) => ?_) (fun (h9 : q6 ≠ 0) => ?_)
  ·
    refine w_kI e45_22 ?_
    exact w_rz e45_23 rfl (by omega) ⟨Z, al, ai, 0, Or.inl ⟨rfl, rfl, rfl, Or.inl (by omega)⟩, rfl, hk, hM⟩
  ·
    refine w_ldA e45_11 (fun _ => rfl) rfl ?_
    refine w_get e45_12 e1 rfl ?_
    refine w_ldI e45_15 (fun _ => rfl) rfl ?_
    refine w_cv e45_16 (by decide) rfl e2 rfl (Nat.le_of_ble_eq_true rfl) (Nat.le_of_ble_eq_true rfl) (Nat.le_of_ble_eq_true rfl) (by decide) (by decide) (k2 hM hk hi_2) (fun o10 v11 hq12 => ?_)
    obtain ⟨rfl, q13, h14, rfl⟩ := hq12
    have hb15 := h14
    refine w_if e45_19 (by omega) (fun (h16q : q13 ≠ 0) => ?_) (fun (h16q : q13 = 0) => ?_)
    ·
      refine w_ldA e45_24 (fun _ => rfl) rfl ?_
      refine w_get e45_25 e1 rfl ?_
      refine w_ldI e45_28 (fun _ => rfl) rfl ?_
      refine w_cv e45_29 (by decide) rfl e2 rfl (Nat.le_of_ble_eq_true rfl) (Nat.le_of_ble_eq_true rfl) (Nat.le_of_ble_eq_true rfl) (by decide) (by decide) (c5x (tk_pla hM) (tk_vars hM) hn hv hi_2) (fun o17 v18 hq19 => ?_)
      obtain ⟨rfl, q20, hq21, rfl⟩ := hq19
      have hb22 := c5b hq21
      refine w_stI (j := 3) (A1 := [some (.ref 1), some (.int (vz i1)), some (.int (vz i2)), some (.int (vz q20))]) e45_32 (fun _ => rfl) (by decide) rfl ?_
      refine w_ldI e45_33 (fun _ => rfl) rfl ?_
      refine w_kI e45_34 ?_
      refine w_ic e45_35 (by omega) (by omega) (fun (h23 : q20 = -1) => ?_) (fun (h23 : q20 ≠ -1) => ?_)
      ·
        refine w_kI e45_53 ?_
        exact w_rz e45_54 rfl (by omega) ⟨Z, al, ai, 1, Or.inl ⟨rfl, rfl, rfl, Or.inr (Or.inl (pl_no hq21 (by omega)))⟩, rfl, hk, hM⟩
      ·
        refine w_ldI e45_38 (fun _ => rfl) rfl ?_
        refine w_ldI e45_39 (fun _ => rfl) rfl ?_
        refine w_ic e45_40 (by omega) hi_1 (fun (h24 : q20 = i1) => ?_) (fun (h24 : q20 ≠ i1) => ?_)
        ·
          refine w_kI e45_53 ?_
          exact w_rz e45_54 rfl (by omega) ⟨Z, al, ai, 1, Or.inl ⟨rfl, rfl, rfl, Or.inr (Or.inr ⟨by omega, by have h9 := (pl_in hq21 (by omega)).2; rw [show q20 = i1 by omega] at h9; exact h9⟩)⟩, rfl, hk, hM⟩
        ·
          refine w_ldA e45_43 (fun _ => rfl) rfl ?_
          refine w_ldI e45_44 (fun _ => rfl) rfl ?_
          refine w_ldI e45_45 (fun _ => rfl) rfl ?_
          refine w_cv e45_46 (by decide) rfl e1 rfl (Nat.le_of_ble_eq_true rfl) (Nat.le_of_ble_eq_true rfl) (Nat.le_of_ble_eq_true rfl) (by decide) (by decide) (k64c hM hk (by omega) (by omega) hn hv hp) (fun o25 v26 hq27 => ?_)
          obtain ⟨⟨al28, ai29, hf30, hm31, hM32⟩, rfl⟩ := hq27
          refine w_ldA e45_49 (fun _ => rfl) rfl ?_
          have e33 := tk_main hM32
          refine w_cv e45_50 (by decide) rfl e33 rfl (Nat.le_of_ble_eq_true rfl) (Nat.le_of_ble_eq_true rfl) (Nat.le_of_ble_eq_true rfl) (by decide) (by decide) (k63 hM32 hk) (fun o34 v35 hq36 => ?_)
          obtain ⟨⟨Z37, ai38, hf39, hk40, hM41⟩, rfl⟩ := hq36
          refine w_kI e45_53 ?_
          exact w_rz e45_54 rfl (by omega) ⟨Z37, al28, ai38, 1, Or.inr ⟨q20, ai29, by omega, by omega, pl_in hq21 (by omega), ⟨hf30, hm31.1.1, hm31.1.2, hm31.2⟩, hf39⟩, rfl, hk40, hM41⟩
    ·
      refine w_kI e45_22 ?_
      exact w_rz e45_23 rfl (by omega) ⟨Z, al, ai, 0, Or.inl ⟨rfl, rfl, rfl, Or.inl (by omega)⟩, rfl, hk, hM⟩
set_option maxRecDepth 100000 in
set_option maxHeartbeats 4000000 in
theorem k20i_L {Z : Nat → Nat → Int} {al : Nat → Nat → Int64} {ai : Nat → Nat → Int} {az : Nat → Nat → Int32} {mm : Nat → Option Nat} {sk : Nat} {v0 : vm_H} (hk : kn Z) {a0 : Nat} (ha_0 : ty a0 = 1) {a1 : Nat} (ha_1 : ty a1 = 3) (hne : a0 ≠ a1 + 1) {l : Po} {p d nv : Nat} (hL : pL Z al (a1 + 1) l) (hg : gk nv l) (hn8 : nv ≤ 8) (hpz : Z a1 0 = (p : Int) ∧ p < nv) (hdz : Z a1 1 = (d : Int) ∧ d < 256) : ∀ N : Nat, (∀ (vh : vm_H) (Z_ : Nat → Nat → Int) (al_ : Nat → Nat → Int64) (y3 : Int64) (x5 : Int), (tk Z_ al_ ai az mm sk v0 vh) → (kn Z_) → (0 ≤ x5 ∧ x5 ≤ Z (a1 + 1) 0) → ((∀ b, b ≠ a0 → Z_ b = Z b) ∧ ∀ b, b ≠ a0 + 1 → b ≠ a0 + 2 → al_ b = al b) → (0 ≤ Z_ a0 0 ∧ Z_ a0 0 ≤ x5) → (ciL Z_ al_ a0 l p d x5) → (y3 = Int64.ofNat (d * 256 ^ p)) → ((61 - x5 : Int).toNat < N) → vm_Wp 1 22 20 27 [some (.ref a0), some (.ref a1), some (.ref (a1 + 1)), some (.long y3), none, some (.int (vz x5))] [] vh (vq_P 20 (fun r v1 => (∃ (Z1 : Nat → Nat → Int) (al1 : Nat → Nat → Int64), ((∀ b, b ≠ a0 → Z1 b = Z b) ∧ ∀ b, b ≠ a0 + 1 → b ≠ a0 + 2 → al1 b = al b) ∧ pL Z1 al1 a0 (ldL l p d) ∧ kn Z1 ∧ tk Z1 al1 ai az mm sk v0 v1) ∧ r = none))) := by
  have hs9 := ty_sep ha_0 (ty_r ha_1) hne
  have hn1 : a1 ≠ a0 := ty_ne ha_1 ha_0 (by decide)
  have hk2 := hk (a1 + 1) (ty_r ha_1)
  intro N
  induction N with
  | zero => exact (by intros; omega)
  | succ N ih =>
    ·
      intro vh Z_ al_ y3 x5 hM hk_ hx5 hi0q hi1 hi2 hi3 hN
      have hz2 : Z_ (a1 + 1) 0 = Z (a1 + 1) 0 := by rw [hi0q.1 _ (Ne.symm hne)]
      have hz3 : Z_ a1 = Z a1 := hi0q.1 _ hn1
      refine w_ldI e20_27 (fun _ => rfl) rfl ?_
      refine w_ldA e20_29 (fun _ => rfl) rfl ?_
      have e11 := tk_poly hM (ty_r ha_1)
      have hk12 := hk_ (a1 + 1) (ty_r ha_1)
      refine w_get e20_30 e11 rfl ?_
      refine w_ic e20_33 (by omega) (tk_r hM (a1 + 1) 0) (fun (h13 : Z_ (a1 + 1) 0 ≤ x5) => ?_) (fun (h13 : x5 < Z_ (a1 + 1) 0) => ?_)
      ·
        exact w_rv e20_107 rfl ⟨⟨Z_, al_, hi0q, ci_e hi2 hL (by omega), hk_, hM⟩, rfl⟩
      ·
        refine w_ldA e20_36 (fun _ => rfl) rfl ?_
        refine w_get e20_37 e11 rfl ?_
        refine w_ldI e20_40 (fun _ => rfl) rfl ?_
        have e14 := tk_l60 hM (ty_p (ty_r ha_1)).1
        refine w_lld e20_42 e14 (by omega) (by omega) (by decide) ?_
        refine w_ldA e20_43 (fun _ => rfl) rfl ?_
        have e15 := tk_row hM ha_1
        refine w_get e20_44 e15 rfl ?_
        refine w_cs e20_47 (by decide) (Nat.le_of_ble_eq_true rfl) (Nat.le_of_ble_eq_true rfl) (Nat.le_of_ble_eq_true rfl) (by decide) (by decide) (c73x) (fun o16 v17 hq18 => ?_)
        obtain ⟨rfl, rfl⟩ := hq18
        have hp19 := pw_bd (((al_ (a1 + 1 + 1)) (x5).toNat)) (Z_ a1 0)
        refine w_ldA e20_50 (fun _ => rfl) rfl ?_
        refine w_get e20_51 e15 rfl ?_
        refine w_ic e20_54 (by omega) (tk_r hM a1 1) (fun (h20 : pw (((al_ (a1 + 1 + 1)) (x5).toNat)) (Z_ a1 0) ≠ Z_ a1 1) => ?_) (fun (h20 : pw (((al_ (a1 + 1 + 1)) (x5).toNat)) (Z_ a1 0) = Z_ a1 1) => ?_)
        ·
          refine w_iinc (A1 := [some (.ref a0), some (.ref a1), some (.ref (a1 + 1)), some (.long y3), none, some (.int (vz (x5 + 1)))]) e20_101 rfl (by decide) rfl ?_
          refine w_x e20_104 (fun _ => rfl) ?_
          exact w_sub (A1 := [some (.ref a0), some (.ref a1), some (.ref (a1 + 1)), some (.long y3), none, some (.int (vz (x5 + 1)))]) (And.intro rfl (And.intro rfl (And.intro rfl (And.intro rfl (And.intro rfl trivial))))) ((ih) vh Z_ al_ y3 (x5 + 1) hM hk_ (by omega) hi0q (by omega) (ci_n hi2 hL hg hn8 (by omega) (by omega) (by rw [hi0q.2 _ (by omega) (by omega)]) (by rw [hz3]; exact hpz.1) (by rw [hz3]; exact hdz.1) h20) hi3 (by omega))
        ·
          refine w_ldA e20_57 (fun _ => rfl) rfl ?_
          have e21 := tk_poly hM ha_0
          have hk22 := hk_ a0 ha_0
          refine w_get e20_58 e21 rfl ?_
          refine w_ldA e20_61 (fun _ => rfl) rfl ?_
          refine w_get e20_62 e21 rfl ?_
          refine w_ldA e20_65 (fun _ => rfl) rfl ?_
          refine w_get e20_66 e11 rfl ?_
          refine w_ldI e20_69 (fun _ => rfl) rfl ?_
          refine w_lld e20_71 e14 (by omega) (by omega) (by decide) ?_
          refine w_ldL e20_72 (fun _ => rfl) rfl ?_
          refine w_x e20_73 (fun _ => rfl) ?_
          have e23 := tk_l60 hM (ty_p ha_0).1
          refine w_lst e20_74 e23 (by omega) (by omega) (by decide) (fun v26 b24 h25 => ?_)
          obtain ⟨al27, hd28, hM29⟩ : ∃ z, z = uA al_ (a0 + 1) (vp_updL (al_ (a0 + 1)) (Z_ a0 0).toNat (((((al_ (a1 + 1 + 1)) (x5).toNat)) - y3))) ∧ tk Z_ z ai az mm sk v0 v26 := ⟨_, rfl, tk_A hM (ty_p ha_0).1 b24 h25⟩
          refine w_ldA e20_75 (fun _ => rfl) rfl ?_
          have e30 := tk_poly hM29 ha_0
          have hk31 := hk_ a0 ha_0
          refine w_get e20_76 e30 rfl ?_
          refine w_ldA e20_79 (fun _ => rfl) rfl ?_
          refine w_get e20_80 e30 rfl ?_
          refine w_ldA e20_83 (fun _ => rfl) rfl ?_
          have e32 := tk_poly hM29 (ty_r ha_1)
          have hk33 := hk_ (a1 + 1) (ty_r ha_1)
          refine w_get e20_84 e32 rfl ?_
          refine w_ldI e20_87 (fun _ => rfl) rfl ?_
          have e34 := tk_l60 hM29 (ty_p (ty_r ha_1)).2
          refine w_lld e20_89 e34 (by omega) (by omega) (by decide) ?_
          have e35 := tk_l60 hM29 (ty_p ha_0).2
          refine w_lst e20_90 e35 (by omega) (by omega) (by decide) (fun v38 b36 h37 => ?_)
          obtain ⟨al39, hd40, hM41⟩ : ∃ z, z = uA al27 (a0 + 2) (vp_updL (al27 (a0 + 2)) (Z_ a0 0).toNat (((al27 (a1 + 1 + 2)) (x5).toNat))) ∧ tk Z_ z ai az mm sk v0 v38 := ⟨_, rfl, tk_A hM29 (ty_p ha_0).2 b36 h37⟩
          refine w_ldA e20_91 (fun _ => rfl) rfl ?_
          refine w_x e20_92 (fun _ => rfl) ?_
          have e42 := tk_poly hM41 ha_0
          have hk43 := hk_ a0 ha_0
          refine w_get e20_93 e42 rfl ?_
          refine w_kI e20_96 ?_
          refine w_iadd e20_97 ?_
          refine w_put e20_98 e42 (Nat.le_of_ble_eq_true rfl) rfl (fun v46 b44 h45 => ?_)
          obtain ⟨Z47, hd48, hM49⟩ : ∃ z, z = u2 Z_ a0 0 ((Z_ a0 0) + 1) ∧ tk z al39 ai az mm sk v0 v46 := ⟨_, rfl, tk_Zp hM41 ha_0 (by omega) b44 h45⟩
          have hk50 := kn_u hk_ hd48 (fun h9 => by omega)
          have hz0 : Z47 a0 0 = Z_ a0 0 + 1 := by rw [hd48, u2_s]
          refine w_iinc (A1 := [some (.ref a0), some (.ref a1), some (.ref (a1 + 1)), some (.long y3), none, some (.int (vz (x5 + 1)))]) e20_101 rfl (by decide) rfl ?_
          refine w_x e20_104 (fun _ => rfl) ?_
          exact w_sub (A1 := [some (.ref a0), some (.ref a1), some (.ref (a1 + 1)), some (.long y3), none, some (.int (vz (x5 + 1)))]) (And.intro rfl (And.intro rfl (And.intro rfl (And.intro rfl (And.intro rfl trivial))))) ((ih) v46 Z47 al39 y3 (x5 + 1) hM49 hk50 (by omega) ⟨fun b b1 => by rw [hd48, u2_af b1]; exact hi0q.1 b b1, fun b b1 b2 => by rw [hd40, uA_o b2, hd28, uA_o b1]; exact hi0q.2 b b1 b2⟩ (by omega) (ci_y hi2 hL hg hn8 hpz.2 (by omega) (by rw [hi0q.2 _ (by omega) (by omega)]) (by rw [hz3]; exact hpz.1) (by rw [hz3]; exact hdz.1) h20 hi3 (by rw [hd28, uA_o (by omega), hi0q.2 _ (by omega) (by omega)]) hd28 hd40 hd48) hi3 (by omega))
set_option maxRecDepth 100000 in
set_option maxHeartbeats 4000000 in
theorem k20i {Z : Nat → Nat → Int} {al : Nat → Nat → Int64} {ai : Nat → Nat → Int} {az : Nat → Nat → Int32} {mm : Nat → Option Nat} {sk : Nat} {v0 vh : vm_H} (hM : tk Z al ai az mm sk v0 vh) (hk : kn Z) {a0 : Nat} (ha_0 : ty a0 = 1) {a1 : Nat} (ha_1 : ty a1 = 3) (hne : a0 ≠ a1 + 1) {l : Po} {p d nv : Nat} (hL : pL Z al (a1 + 1) l) (hg : gk nv l) (hn8 : nv ≤ 8) (hpz : Z a1 0 = (p : Int) ∧ p < nv) (hdz : Z a1 1 = (d : Int) ∧ d < 256) : vm_Rp 1 22 20 [.ref a0, .ref a1] vh (fun r v1 => (∃ (Z1 : Nat → Nat → Int) (al1 : Nat → Nat → Int64), ((∀ b, b ≠ a0 → Z1 b = Z b) ∧ ∀ b, b ≠ a0 + 1 → b ≠ a0 + 2 → al1 b = al b) ∧ pL Z1 al1 a0 (ldL l p d) ∧ kn Z1 ∧ tk Z1 al1 ai az mm sk v0 v1) ∧ r = none) := by
  have hs9 := ty_sep ha_0 (ty_r ha_1) hne
  have hn1 : a1 ≠ a0 := ty_ne ha_1 ha_0 (by decide)
  have hk2 := hk (a1 + 1) (ty_r ha_1)
  refine w_in (m := 4) ?_
  show vm_Wp _ _ _ 0 [some (.ref a0), some (.ref a1), none, none, none, none] [] _ _
  refine w_ldA e20_0 (fun _ => rfl) rfl ?_
  have e1 := tk_row hM ha_1
  refine w_get e20_1 e1 rfl ?_
  refine w_stA (j := 2) (A1 := [some (.ref a0), some (.ref a1), some (.ref (a1 + 1)), none, none, none]) e20_4 (fun _ => rfl) (by decide) rfl ?_
  refine w_ldA e20_5 (fun _ => rfl) rfl ?_
  refine w_get e20_6 e1 rfl ?_
  refine w_x e20_9 (fun _ => rfl) ?_
  refine w_kB e20_10 rfl ?_
  refine w_ldA e20_12 (fun _ => rfl) rfl ?_
  refine w_get e20_13 e1 rfl ?_
  refine w_imul e20_16 ?_
  refine w_x e20_17 (fun _ => rfl) ?_
  refine w_stL (j := 3) (A1 := [some (.ref a0), some (.ref a1), some (.ref (a1 + 1)), some (.long (((vz (Z a1 1)).toInt64 <<< ((vz (8 * (Z a1 0))).toInt64 &&& 63)))), none, none]) e20_18 (fun _ => rfl) (by decide) rfl ?_
  refine w_ldA e20_19 (fun _ => rfl) rfl ?_
  refine w_kI e20_20 ?_
  have e2 := tk_poly hM ha_0
  have hk3 := hk a0 ha_0
  refine w_put e20_21 e2 (Nat.le_of_ble_eq_true rfl) rfl (fun v6 b4 h5 => ?_)
  obtain ⟨Z7, hd8, hM9⟩ : ∃ z, z = u2 Z a0 0 0 ∧ tk z al ai az mm sk v0 v6 := ⟨_, rfl, tk_Zp hM ha_0 (by omega) b4 h5⟩
  have hk10 := kn_u hk hd8 (fun h9 => by omega)
  have hz0 : Z7 a0 0 = 0 := by rw [hd8, u2_s]
  have hz1 : Z7 (a1 + 1) = Z (a1 + 1) := by rw [hd8, u2_af (Ne.symm hne)]
  refine w_kI e20_24 ?_
  refine w_stI (j := 5) (A1 := [some (.ref a0), some (.ref a1), some (.ref (a1 + 1)), some (.long (((vz (Z a1 1)).toInt64 <<< ((vz (8 * (Z a1 0))).toInt64 &&& 63)))), none, some (.int (vz 0))]) e20_25 (fun _ => rfl) (by decide) rfl ?_
  exact w_sub (A1 := [some (.ref a0), some (.ref a1), some (.ref (a1 + 1)), some (.long (((vz (Z a1 1)).toInt64 <<< ((vz (8 * (Z a1 0))).toInt64 &&& 63)))), none, some (.int (vz 0))]) (And.intro rfl (And.intro rfl (And.intro rfl (And.intro rfl (And.intro rfl trivial))))) (((k20i_L (Z := Z) (al := al) (ai := ai) (az := az) (mm := mm) (sk := sk) (v0 := v0) (a0 := a0) (a1 := a1) (l := l) (p := p) (d := d) (nv := nv) hk ha_0 ha_1 hne hL hg hn8 hpz hdz _)) v6 Z7 al (((vz (Z a1 1)).toInt64 <<< ((vz (8 * (Z a1 0))).toInt64 &&& 63))) 0 hM9 hk10 (by omega) ⟨fun b b1 => by rw [hd8, u2_af b1], fun _ _ _ => rfl⟩ (by omega) (ci_0 hz0) (by rw [hdz.1, hpz.1]; exact lead_e hdz.2 (by omega)) (Nat.lt_succ_self _))
set_option maxRecDepth 100000 in
set_option maxHeartbeats 4000000 in
theorem k62i {Z : Nat → Nat → Int} {al : Nat → Nat → Int64} {ai : Nat → Nat → Int} {az : Nat → Nat → Int32} {mm : Nat → Option Nat} {sk : Nat} {v0 vh : vm_H} (hM : tk Z al ai az mm sk v0 vh) (hk : kn Z) {i1 : Int} (hi_1 : -2147483648 ≤ i1 ∧ i1 < 2147483648) {i2 : Int} (hi_2 : -2147483648 ≤ i2 ∧ i2 < 2147483648) {fr : Nat → Bool} {nv : Nat} {R : Nat → Po} {c : Nat} {B : List Nat} (hset : setK fr nv R c B Z al mm) (hp : 0 ≤ Z 1 0 ∧ Z 1 0 ≤ 16) {U : Nat → Po} {rm cd : Po} (hn8 : nv ≤ 8) (hU : usK nv (Z 1 0).toNat U Z al) (hrm : pL Z al 227 rm) (hcd : pL Z al 224 cd) : vm_Rp 2 47 62 [.ref 1, .int (vz i1), .int (vz i2)] vh (fun r v1 => ∃ (Z1 : Nat → Nat → Int) (al1 : Nat → Nat → Int64), loF Z Z1 al al1 ∧ ((r = some .null ∧ (fdF (Z 1 0) U (Z 217 0) (mbP fr nv R B) rm cd i1 i2) = []) ∨ ∃ a, ty a = 1 ∧ r = some (.ref a) ∧ pL Z1 al1 a (fdF (Z 1 0) U (Z 217 0) (mbP fr nv R B) rm cd i1 i2)) ∧ kn Z1 ∧ tk Z1 al1 ai az mm sk v0 v1) := by
  refine w_in (m := 0) ?_
  show vm_Wp _ _ _ 0 [some (.ref 1), some (.int (vz i1)), some (.int (vz i2))] [] _ _
  refine w_ldI e62_0 (fun _ => rfl) rfl ?_
  refine w_if e62_1 hi_1 (fun (h1 : i1 ≠ 0) => ?_) (fun (h1 : i1 = 0) => ?_)
  ·
    refine w_ldI e62_19 (fun _ => rfl) rfl ?_
    refine w_kI e62_20 ?_
    refine w_ic e62_21 hi_1 (by omega) (fun (h2 : i1 ≠ 1) => ?_) (fun (h2 : i1 = 1) => ?_)
    ·
      refine w_ldI e62_45 (fun _ => rfl) rfl ?_
      refine w_kI e62_46 ?_
      refine w_ic e62_47 hi_1 (by omega) (fun (h3 : i1 ≠ 2) => ?_) (fun (h3 : i1 = 2) => ?_)
      ·
        refine w_ldI e62_79 (fun _ => rfl) rfl ?_
        refine w_kI e62_80 ?_
        refine w_ic e62_81 hi_1 (by omega) (fun (h4 : i1 ≠ 3) => ?_) (fun (h4 : i1 = 3) => ?_)
        ·
          refine w_ldI e62_93 (fun _ => rfl) rfl ?_
          refine w_kI e62_94 ?_
          refine w_ic e62_95 hi_1 (by omega) (fun (h5 : i1 ≠ 4) => ?_) (fun (h5 : i1 = 4) => ?_)
          ·
            refine w_x e62_107 (fun _ => rfl) ?_
            exact w_rn e62_108 rfl ⟨Z, al, loF_0, Or.inl ⟨rfl, fdn (by omega) (by omega) (by omega) (fun h8 h9 => by omega) (fun h8 h9 => by omega)⟩, hk, hM⟩
          ·
            refine w_ldI e62_98 (fun _ => rfl) rfl ?_
            refine w_if e62_99 hi_2 (fun (h6 : i2 ≠ 0) => ?_) (fun (h6 : i2 = 0) => ?_)
            ·
              refine w_x e62_107 (fun _ => rfl) ?_
              exact w_rn e62_108 rfl ⟨Z, al, loF_0, Or.inl ⟨rfl, fdn (by omega) (by omega) (by omega) (fun h8 h9 => by omega) (fun h8 h9 => by omega)⟩, hk, hM⟩
            ·
              refine w_ldA e62_102 (fun _ => rfl) rfl ?_
              have e7 := tk_main hM
              refine w_get e62_103 e7 rfl ?_
              exact w_ra e62_106 rfl ⟨Z, al, loF_0, Or.inr ⟨_, (rfl : ty 224 = 1), rfl, by rw [fd4 (by omega) (by omega)]; exact hcd⟩, hk, hM⟩
        ·
          refine w_ldI e62_84 (fun _ => rfl) rfl ?_
          refine w_if e62_85 hi_2 (fun (h8 : i2 ≠ 0) => ?_) (fun (h8 : i2 = 0) => ?_)
          ·
            refine w_ldI e62_93 (fun _ => rfl) rfl ?_
            refine w_kI e62_94 ?_
            refine w_ic e62_95 hi_1 (by omega) (fun (h9 : i1 ≠ 4) => ?_) (fun (h9 : i1 = 4) => ?_)
            ·
              refine w_x e62_107 (fun _ => rfl) ?_
              exact w_rn e62_108 rfl ⟨Z, al, loF_0, Or.inl ⟨rfl, fdn (by omega) (by omega) (by omega) (fun h8 h9 => by omega) (fun h8 h9 => by omega)⟩, hk, hM⟩
            ·
              refine w_ldI e62_98 (fun _ => rfl) rfl ?_
              refine w_if e62_99 hi_2 (fun (h10 : i2 ≠ 0) => ?_) (fun (h10 : i2 = 0) => ?_)
              ·
                refine w_x e62_107 (fun _ => rfl) ?_
                exact w_rn e62_108 rfl ⟨Z, al, loF_0, Or.inl ⟨rfl, fdn (by omega) (by omega) (by omega) (fun h8 h9 => by omega) (fun h8 h9 => by omega)⟩, hk, hM⟩
              ·
                refine w_ldA e62_102 (fun _ => rfl) rfl ?_
                have e11 := tk_main hM
                refine w_get e62_103 e11 rfl ?_
                exact w_ra e62_106 rfl ⟨Z, al, loF_0, Or.inr ⟨_, (rfl : ty 224 = 1), rfl, by rw [fd4 (by omega) (by omega)]; exact hcd⟩, hk, hM⟩
          ·
            refine w_ldA e62_88 (fun _ => rfl) rfl ?_
            have e12 := tk_main hM
            refine w_get e62_89 e12 rfl ?_
            exact w_ra e62_92 rfl ⟨Z, al, loF_0, Or.inr ⟨_, (rfl : ty 227 = 1), rfl, by rw [fd3 (by omega) (by omega)]; exact hrm⟩, hk, hM⟩
      ·
        refine w_ldA e62_50 (fun _ => rfl) rfl ?_
        refine w_ldI e62_51 (fun _ => rfl) rfl ?_
        have e13 := tk_main hM
        refine w_cv e62_52 (by decide) rfl e13 rfl (Nat.le_of_ble_eq_true rfl) (Nat.le_of_ble_eq_true rfl) (Nat.le_of_ble_eq_true rfl) (by decide) (by decide) (k60 hM hk hi_2) (fun o14 v15 hq16 => ?_)
        obtain ⟨rfl, q17, h18, rfl⟩ := hq16
        have hb19 := h18
        refine w_if e62_55 (by omega) (fun (h20 : q17 = 0) => ?_) (fun (h20 : q17 ≠ 0) => ?_)
        ·
          refine w_ldI e62_79 (fun _ => rfl) rfl ?_
          refine w_kI e62_80 ?_
          refine w_ic e62_81 hi_1 (by omega) (fun (h21 : i1 ≠ 3) => ?_) (fun (h21 : i1 = 3) => ?_)
          ·
            refine w_ldI e62_93 (fun _ => rfl) rfl ?_
            refine w_kI e62_94 ?_
            refine w_ic e62_95 hi_1 (by omega) (fun (h22 : i1 ≠ 4) => ?_) (fun (h22 : i1 = 4) => ?_)
            ·
              refine w_x e62_107 (fun _ => rfl) ?_
              exact w_rn e62_108 rfl ⟨Z, al, loF_0, Or.inl ⟨rfl, fdn (by omega) (by omega) (by omega) (fun h8 h9 => by omega) (fun h8 h9 => by omega)⟩, hk, hM⟩
            ·
              refine w_ldI e62_98 (fun _ => rfl) rfl ?_
              refine w_if e62_99 hi_2 (fun (h23 : i2 ≠ 0) => ?_) (fun (h23 : i2 = 0) => ?_)
              ·
                refine w_x e62_107 (fun _ => rfl) ?_
                exact w_rn e62_108 rfl ⟨Z, al, loF_0, Or.inl ⟨rfl, fdn (by omega) (by omega) (by omega) (fun h8 h9 => by omega) (fun h8 h9 => by omega)⟩, hk, hM⟩
              ·
                refine w_ldA e62_102 (fun _ => rfl) rfl ?_
                refine w_get e62_103 e13 rfl ?_
                exact w_ra e62_106 rfl ⟨Z, al, loF_0, Or.inr ⟨_, (rfl : ty 224 = 1), rfl, by rw [fd4 (by omega) (by omega)]; exact hcd⟩, hk, hM⟩
          ·
            refine w_ldI e62_84 (fun _ => rfl) rfl ?_
            refine w_if e62_85 hi_2 (fun (h24 : i2 ≠ 0) => ?_) (fun (h24 : i2 = 0) => ?_)
            ·
              refine w_ldI e62_93 (fun _ => rfl) rfl ?_
              refine w_kI e62_94 ?_
              refine w_ic e62_95 hi_1 (by omega) (fun (h25 : i1 ≠ 4) => ?_) (fun (h25 : i1 = 4) => ?_)
              ·
                refine w_x e62_107 (fun _ => rfl) ?_
                exact w_rn e62_108 rfl ⟨Z, al, loF_0, Or.inl ⟨rfl, fdn (by omega) (by omega) (by omega) (fun h8 h9 => by omega) (fun h8 h9 => by omega)⟩, hk, hM⟩
              ·
                refine w_ldI e62_98 (fun _ => rfl) rfl ?_
                refine w_if e62_99 hi_2 (fun (h26 : i2 ≠ 0) => ?_) (fun (h26 : i2 = 0) => ?_)
                ·
                  refine w_x e62_107 (fun _ => rfl) ?_
                  exact w_rn e62_108 rfl ⟨Z, al, loF_0, Or.inl ⟨rfl, fdn (by omega) (by omega) (by omega) (fun h8 h9 => by omega) (fun h8 h9 => by omega)⟩, hk, hM⟩
                ·
                  refine w_ldA e62_102 (fun _ => rfl) rfl ?_
                  refine w_get e62_103 e13 rfl ?_
                  exact w_ra e62_106 rfl ⟨Z, al, loF_0, Or.inr ⟨_, (rfl : ty 224 = 1), rfl, by rw [fd4 (by omega) (by omega)]; exact hcd⟩, hk, hM⟩
            ·
              refine w_ldA e62_88 (fun _ => rfl) rfl ?_
              refine w_get e62_89 e13 rfl ?_
              exact w_ra e62_92 rfl ⟨Z, al, loF_0, Or.inr ⟨_, (rfl : ty 227 = 1), rfl, by rw [fd3 (by omega) (by omega)]; exact hrm⟩, hk, hM⟩
        ·
          obtain ⟨hR, hBq, hc⟩ := hset (by omega)
          have hB1 := hBq.1
          have hB2 := hBq.2.1
          refine w_ldA e62_58 (fun _ => rfl) rfl ?_
          refine w_get e62_59 e13 rfl ?_
          refine w_ldA e62_62 (fun _ => rfl) rfl ?_
          refine w_get e62_63 e13 rfl ?_
          have e27 := tk_tri hM
          refine w_get e62_66 e27 rfl ?_
          refine w_ldI e62_69 (fun _ => rfl) rfl ?_
          have e28 := tk_mem hM
          have hm29 := mb_lt hBq (j := (i2).toNat) (by omega)
          have hm30 := mb_q hBq (j := (i2).toNat) (by omega)
          refine w_qld e62_70 e28 (by decide) (by omega) (by omega) (by decide) hm30 ?_
          have e31 := tk_poly hM (rfl : ty 234 = 1)
          have hk32 := hk 234 (rfl : ty 234 = 1)
          refine w_cv e62_71 (by decide) rfl e31 rfl (Nat.le_of_ble_eq_true rfl) (Nat.le_of_ble_eq_true rfl) (Nat.le_of_ble_eq_true rfl) (by decide) (by decide) (k20i hM hk (rfl : ty 234 = 1) (ty_ri (B.reverse.getD ((i2).toNat) 0) (by omega)) (by omega) (hR.1 (B.reverse.getD (i2).toNat 0) (by omega)).1.1 (hR.1 (B.reverse.getD (i2).toNat 0) (by omega)).1.2 hn8 (rw_p hR (by omega)) (rw_e hR (by omega))) (fun o33 v34 hq35 => ?_)
          obtain ⟨⟨Z36, al37, hf38, hci39, hk40, hM41⟩, rfl⟩ := hq35
          refine w_ldA e62_74 (fun _ => rfl) rfl ?_
          have e42 := tk_main hM41
          refine w_get e62_75 e42 rfl ?_
          exact w_ra e62_78 rfl ⟨Z36, al37, ⟨fun b _ b2 => hf38.1 b b2, fun b b1 b2 _ => hf38.2 b b1 b2⟩, Or.inr ⟨_, (rfl : ty 234 = 1), rfl, by rw [fd2 (by omega) (by omega)]; exact hci39⟩, hk40, hM41⟩
    ·
      refine w_ldA e62_24 (fun _ => rfl) rfl ?_
      refine w_ldI e62_25 (fun _ => rfl) rfl ?_
      have e43 := tk_main hM
      refine w_cv e62_26 (by decide) rfl e43 rfl (Nat.le_of_ble_eq_true rfl) (Nat.le_of_ble_eq_true rfl) (Nat.le_of_ble_eq_true rfl) (by decide) (by decide) (k60 hM hk hi_2) (fun o44 v45 hq46 => ?_)
      obtain ⟨rfl, q47, h48, rfl⟩ := hq46
      have hb49 := h48
      refine w_if e62_29 (by omega) (fun (h50 : q47 = 0) => ?_) (fun (h50 : q47 ≠ 0) => ?_)
      ·
        refine w_ldI e62_45 (fun _ => rfl) rfl ?_
        refine w_kI e62_46 ?_
        refine w_ic e62_47 hi_1 (by omega) (fun (h51 : i1 ≠ 2) => ?_) (fun (h51 : i1 = 2) => ?_)
        ·
          refine w_ldI e62_79 (fun _ => rfl) rfl ?_
          refine w_kI e62_80 ?_
          refine w_ic e62_81 hi_1 (by omega) (fun (h52 : i1 ≠ 3) => ?_) (fun (h52 : i1 = 3) => ?_)
          ·
            refine w_ldI e62_93 (fun _ => rfl) rfl ?_
            refine w_kI e62_94 ?_
            refine w_ic e62_95 hi_1 (by omega) (fun (h53 : i1 ≠ 4) => ?_) (fun (h53 : i1 = 4) => ?_)
            ·
              refine w_x e62_107 (fun _ => rfl) ?_
              exact w_rn e62_108 rfl ⟨Z, al, loF_0, Or.inl ⟨rfl, fdn (by omega) (by omega) (by omega) (fun h8 h9 => by omega) (fun h8 h9 => by omega)⟩, hk, hM⟩
            ·
              refine w_ldI e62_98 (fun _ => rfl) rfl ?_
              refine w_if e62_99 hi_2 (fun (h54 : i2 ≠ 0) => ?_) (fun (h54 : i2 = 0) => ?_)
              ·
                refine w_x e62_107 (fun _ => rfl) ?_
                exact w_rn e62_108 rfl ⟨Z, al, loF_0, Or.inl ⟨rfl, fdn (by omega) (by omega) (by omega) (fun h8 h9 => by omega) (fun h8 h9 => by omega)⟩, hk, hM⟩
              ·
                refine w_ldA e62_102 (fun _ => rfl) rfl ?_
                refine w_get e62_103 e43 rfl ?_
                exact w_ra e62_106 rfl ⟨Z, al, loF_0, Or.inr ⟨_, (rfl : ty 224 = 1), rfl, by rw [fd4 (by omega) (by omega)]; exact hcd⟩, hk, hM⟩
          ·
            refine w_ldI e62_84 (fun _ => rfl) rfl ?_
            refine w_if e62_85 hi_2 (fun (h55 : i2 ≠ 0) => ?_) (fun (h55 : i2 = 0) => ?_)
            ·
              refine w_ldI e62_93 (fun _ => rfl) rfl ?_
              refine w_kI e62_94 ?_
              refine w_ic e62_95 hi_1 (by omega) (fun (h56 : i1 ≠ 4) => ?_) (fun (h56 : i1 = 4) => ?_)
              ·
                refine w_x e62_107 (fun _ => rfl) ?_
                exact w_rn e62_108 rfl ⟨Z, al, loF_0, Or.inl ⟨rfl, fdn (by omega) (by omega) (by omega) (fun h8 h9 => by omega) (fun h8 h9 => by omega)⟩, hk, hM⟩
              ·
                refine w_ldI e62_98 (fun _ => rfl) rfl ?_
                refine w_if e62_99 hi_2 (fun (h57 : i2 ≠ 0) => ?_) (fun (h57 : i2 = 0) => ?_)
                ·
                  refine w_x e62_107 (fun _ => rfl) ?_
                  exact w_rn e62_108 rfl ⟨Z, al, loF_0, Or.inl ⟨rfl, fdn (by omega) (by omega) (by omega) (fun h8 h9 => by omega) (fun h8 h9 => by omega)⟩, hk, hM⟩
                ·
                  refine w_ldA e62_102 (fun _ => rfl) rfl ?_
                  refine w_get e62_103 e43 rfl ?_
                  exact w_ra e62_106 rfl ⟨Z, al, loF_0, Or.inr ⟨_, (rfl : ty 224 = 1), rfl, by rw [fd4 (by omega) (by omega)]; exact hcd⟩, hk, hM⟩
            ·
              refine w_ldA e62_88 (fun _ => rfl) rfl ?_
              refine w_get e62_89 e43 rfl ?_
              exact w_ra e62_92 rfl ⟨Z, al, loF_0, Or.inr ⟨_, (rfl : ty 227 = 1), rfl, by rw [fd3 (by omega) (by omega)]; exact hrm⟩, hk, hM⟩
        ·
          refine w_ldA e62_50 (fun _ => rfl) rfl ?_
          refine w_ldI e62_51 (fun _ => rfl) rfl ?_
          refine w_cv e62_52 (by decide) rfl e43 rfl (Nat.le_of_ble_eq_true rfl) (Nat.le_of_ble_eq_true rfl) (Nat.le_of_ble_eq_true rfl) (by decide) (by decide) (k60 hM hk hi_2) (fun o58 v59 hq60 => ?_)
          obtain ⟨rfl, q61, h62, rfl⟩ := hq60
          have hb63 := h62
          refine w_if e62_55 (by omega) (fun (h64 : q61 = 0) => ?_) (fun (h64 : q61 ≠ 0) => ?_)
          ·
            refine w_ldI e62_79 (fun _ => rfl) rfl ?_
            refine w_kI e62_80 ?_
            refine w_ic e62_81 hi_1 (by omega) (fun (h65 : i1 ≠ 3) => ?_) (fun (h65 : i1 = 3) => ?_)
            ·
              refine w_ldI e62_93 (fun _ => rfl) rfl ?_
              refine w_kI e62_94 ?_
              refine w_ic e62_95 hi_1 (by omega) (fun (h66 : i1 ≠ 4) => ?_) (fun (h66 : i1 = 4) => ?_)
              ·
                refine w_x e62_107 (fun _ => rfl) ?_
                exact w_rn e62_108 rfl ⟨Z, al, loF_0, Or.inl ⟨rfl, fdn (by omega) (by omega) (by omega) (fun h8 h9 => by omega) (fun h8 h9 => by omega)⟩, hk, hM⟩
              ·
                refine w_ldI e62_98 (fun _ => rfl) rfl ?_
                refine w_if e62_99 hi_2 (fun (h67 : i2 ≠ 0) => ?_) (fun (h67 : i2 = 0) => ?_)
                ·
                  refine w_x e62_107 (fun _ => rfl) ?_
                  exact w_rn e62_108 rfl ⟨Z, al, loF_0, Or.inl ⟨rfl, fdn (by omega) (by omega) (by omega) (fun h8 h9 => by omega) (fun h8 h9 => by omega)⟩, hk, hM⟩
                ·
                  refine w_ldA e62_102 (fun _ => rfl) rfl ?_
                  refine w_get e62_103 e43 rfl ?_
                  exact w_ra e62_106 rfl ⟨Z, al, loF_0, Or.inr ⟨_, (rfl : ty 224 = 1), rfl, by rw [fd4 (by omega) (by omega)]; exact hcd⟩, hk, hM⟩
            ·
              refine w_ldI e62_84 (fun _ => rfl) rfl ?_
              refine w_if e62_85 hi_2 (fun (h68 : i2 ≠ 0) => ?_) (fun (h68 : i2 = 0) => ?_)
              ·
                refine w_ldI e62_93 (fun _ => rfl) rfl ?_
                refine w_kI e62_94 ?_
                refine w_ic e62_95 hi_1 (by omega) (fun (h69 : i1 ≠ 4) => ?_) (fun (h69 : i1 = 4) => ?_)
                ·
                  refine w_x e62_107 (fun _ => rfl) ?_
                  exact w_rn e62_108 rfl ⟨Z, al, loF_0, Or.inl ⟨rfl, fdn (by omega) (by omega) (by omega) (fun h8 h9 => by omega) (fun h8 h9 => by omega)⟩, hk, hM⟩
                ·
                  refine w_ldI e62_98 (fun _ => rfl) rfl ?_
                  refine w_if e62_99 hi_2 (fun (h70 : i2 ≠ 0) => ?_) (fun (h70 : i2 = 0) => ?_)
                  ·
                    refine w_x e62_107 (fun _ => rfl) ?_
                    exact w_rn e62_108 rfl ⟨Z, al, loF_0, Or.inl ⟨rfl, fdn (by omega) (by omega) (by omega) (fun h8 h9 => by omega) (fun h8 h9 => by omega)⟩, hk, hM⟩
                  ·
                    refine w_ldA e62_102 (fun _ => rfl) rfl ?_
                    refine w_get e62_103 e43 rfl ?_
                    exact w_ra e62_106 rfl ⟨Z, al, loF_0, Or.inr ⟨_, (rfl : ty 224 = 1), rfl, by rw [fd4 (by omega) (by omega)]; exact hcd⟩, hk, hM⟩
              ·
                refine w_ldA e62_88 (fun _ => rfl) rfl ?_
                refine w_get e62_89 e43 rfl ?_
                exact w_ra e62_92 rfl ⟨Z, al, loF_0, Or.inr ⟨_, (rfl : ty 227 = 1), rfl, by rw [fd3 (by omega) (by omega)]; exact hrm⟩, hk, hM⟩
          ·
            obtain ⟨hR, hBq, hc⟩ := hset (by omega)
            have hB1 := hBq.1
            have hB2 := hBq.2.1
            refine w_ldA e62_58 (fun _ => rfl) rfl ?_
            refine w_get e62_59 e43 rfl ?_
            refine w_ldA e62_62 (fun _ => rfl) rfl ?_
            refine w_get e62_63 e43 rfl ?_
            have e71 := tk_tri hM
            refine w_get e62_66 e71 rfl ?_
            refine w_ldI e62_69 (fun _ => rfl) rfl ?_
            have e72 := tk_mem hM
            have hm73 := mb_lt hBq (j := (i2).toNat) (by omega)
            have hm74 := mb_q hBq (j := (i2).toNat) (by omega)
            refine w_qld e62_70 e72 (by decide) (by omega) (by omega) (by decide) hm74 ?_
            have e75 := tk_poly hM (rfl : ty 234 = 1)
            have hk76 := hk 234 (rfl : ty 234 = 1)
            refine w_cv e62_71 (by decide) rfl e75 rfl (Nat.le_of_ble_eq_true rfl) (Nat.le_of_ble_eq_true rfl) (Nat.le_of_ble_eq_true rfl) (by decide) (by decide) (k20i hM hk (rfl : ty 234 = 1) (ty_ri (B.reverse.getD ((i2).toNat) 0) (by omega)) (by omega) (hR.1 (B.reverse.getD (i2).toNat 0) (by omega)).1.1 (hR.1 (B.reverse.getD (i2).toNat 0) (by omega)).1.2 hn8 (rw_p hR (by omega)) (rw_e hR (by omega))) (fun o77 v78 hq79 => ?_)
            obtain ⟨⟨Z80, al81, hf82, hci83, hk84, hM85⟩, rfl⟩ := hq79
            refine w_ldA e62_74 (fun _ => rfl) rfl ?_
            have e86 := tk_main hM85
            refine w_get e62_75 e86 rfl ?_
            exact w_ra e62_78 rfl ⟨Z80, al81, ⟨fun b _ b2 => hf82.1 b b2, fun b b1 b2 _ => hf82.2 b b1 b2⟩, Or.inr ⟨_, (rfl : ty 234 = 1), rfl, by rw [fd2 (by omega) (by omega)]; exact hci83⟩, hk84, hM85⟩
      ·
        obtain ⟨hR, hBq, hc⟩ := hset (by omega)
        have hB1 := hBq.1
        have hB2 := hBq.2.1
        refine w_ldA e62_32 (fun _ => rfl) rfl ?_
        refine w_get e62_33 e43 rfl ?_
        have e87 := tk_tri hM
        refine w_get e62_36 e87 rfl ?_
        refine w_ldI e62_39 (fun _ => rfl) rfl ?_
        have e88 := tk_mem hM
        have hm89 := mb_lt hBq (j := (i2).toNat) (by omega)
        have hm90 := mb_q hBq (j := (i2).toNat) (by omega)
        refine w_qld e62_40 e88 (by decide) (by omega) (by omega) (by decide) hm90 ?_
        have e91 := tk_row hM (ty_ri (B.reverse.getD ((i2).toNat) 0) (by omega))
        refine w_get e62_41 e91 rfl ?_
        exact w_ra e62_44 rfl ⟨Z, al, loF_0, Or.inr ⟨_, (ty_r (ty_ri (B.reverse.getD ((i2).toNat) 0) (by omega))), rfl, by rw [fd1 (by omega) (by omega)]; exact (hR.1 (B.reverse.getD (i2).toNat 0) (by omega)).1.1⟩, hk, hM⟩
  ·
    refine w_ldA e62_4 (fun _ => rfl) rfl ?_
    refine w_ldI e62_5 (fun _ => rfl) rfl ?_
    have e92 := tk_main hM
    refine w_cv e62_6 (by decide) rfl e92 rfl (Nat.le_of_ble_eq_true rfl) (Nat.le_of_ble_eq_true rfl) (Nat.le_of_ble_eq_true rfl) (by decide) (by decide) (k59 hM hk hi_2) (fun o93 v94 hq95 => ?_)
    obtain ⟨rfl, q96, h97, rfl⟩ := hq95
    have hb98 := h97
    refine w_if e62_9 (by omega) (fun (h99 : q96 = 0) => ?_) (fun (h99 : q96 ≠ 0) => ?_)
    ·
      refine w_ldI e62_19 (fun _ => rfl) rfl ?_
      refine w_kI e62_20 ?_
      refine w_ic e62_21 hi_1 (by omega) (fun (h100 : i1 ≠ 1) => ?_) (fun (h100 : i1 = 1) => ?_)
      ·
        refine w_ldI e62_45 (fun _ => rfl) rfl ?_
        refine w_kI e62_46 ?_
        refine w_ic e62_47 hi_1 (by omega) (fun (h101 : i1 ≠ 2) => ?_) (fun (h101 : i1 = 2) => ?_)
        ·
          refine w_ldI e62_79 (fun _ => rfl) rfl ?_
          refine w_kI e62_80 ?_
          refine w_ic e62_81 hi_1 (by omega) (fun (h102 : i1 ≠ 3) => ?_) (fun (h102 : i1 = 3) => ?_)
          ·
            refine w_ldI e62_93 (fun _ => rfl) rfl ?_
            refine w_kI e62_94 ?_
            refine w_ic e62_95 hi_1 (by omega) (fun (h103 : i1 ≠ 4) => ?_) (fun (h103 : i1 = 4) => ?_)
            ·
              refine w_x e62_107 (fun _ => rfl) ?_
              exact w_rn e62_108 rfl ⟨Z, al, loF_0, Or.inl ⟨rfl, fdn (by omega) (by omega) (by omega) (fun h8 h9 => by omega) (fun h8 h9 => by omega)⟩, hk, hM⟩
            ·
              refine w_ldI e62_98 (fun _ => rfl) rfl ?_
              refine w_if e62_99 hi_2 (fun (h104 : i2 ≠ 0) => ?_) (fun (h104 : i2 = 0) => ?_)
              ·
                refine w_x e62_107 (fun _ => rfl) ?_
                exact w_rn e62_108 rfl ⟨Z, al, loF_0, Or.inl ⟨rfl, fdn (by omega) (by omega) (by omega) (fun h8 h9 => by omega) (fun h8 h9 => by omega)⟩, hk, hM⟩
              ·
                refine w_ldA e62_102 (fun _ => rfl) rfl ?_
                refine w_get e62_103 e92 rfl ?_
                exact w_ra e62_106 rfl ⟨Z, al, loF_0, Or.inr ⟨_, (rfl : ty 224 = 1), rfl, by rw [fd4 (by omega) (by omega)]; exact hcd⟩, hk, hM⟩
          ·
            refine w_ldI e62_84 (fun _ => rfl) rfl ?_
            refine w_if e62_85 hi_2 (fun (h105 : i2 ≠ 0) => ?_) (fun (h105 : i2 = 0) => ?_)
            ·
              refine w_ldI e62_93 (fun _ => rfl) rfl ?_
              refine w_kI e62_94 ?_
              refine w_ic e62_95 hi_1 (by omega) (fun (h106 : i1 ≠ 4) => ?_) (fun (h106 : i1 = 4) => ?_)
              ·
                refine w_x e62_107 (fun _ => rfl) ?_
                exact w_rn e62_108 rfl ⟨Z, al, loF_0, Or.inl ⟨rfl, fdn (by omega) (by omega) (by omega) (fun h8 h9 => by omega) (fun h8 h9 => by omega)⟩, hk, hM⟩
              ·
                refine w_ldI e62_98 (fun _ => rfl) rfl ?_
                refine w_if e62_99 hi_2 (fun (h107 : i2 ≠ 0) => ?_) (fun (h107 : i2 = 0) => ?_)
                ·
                  refine w_x e62_107 (fun _ => rfl) ?_
                  exact w_rn e62_108 rfl ⟨Z, al, loF_0, Or.inl ⟨rfl, fdn (by omega) (by omega) (by omega) (fun h8 h9 => by omega) (fun h8 h9 => by omega)⟩, hk, hM⟩
                ·
                  refine w_ldA e62_102 (fun _ => rfl) rfl ?_
                  refine w_get e62_103 e92 rfl ?_
                  exact w_ra e62_106 rfl ⟨Z, al, loF_0, Or.inr ⟨_, (rfl : ty 224 = 1), rfl, by rw [fd4 (by omega) (by omega)]; exact hcd⟩, hk, hM⟩
            ·
              refine w_ldA e62_88 (fun _ => rfl) rfl ?_
              refine w_get e62_89 e92 rfl ?_
              exact w_ra e62_92 rfl ⟨Z, al, loF_0, Or.inr ⟨_, (rfl : ty 227 = 1), rfl, by rw [fd3 (by omega) (by omega)]; exact hrm⟩, hk, hM⟩
        ·
          refine w_ldA e62_50 (fun _ => rfl) rfl ?_
          refine w_ldI e62_51 (fun _ => rfl) rfl ?_
          refine w_cv e62_52 (by decide) rfl e92 rfl (Nat.le_of_ble_eq_true rfl) (Nat.le_of_ble_eq_true rfl) (Nat.le_of_ble_eq_true rfl) (by decide) (by decide) (k60 hM hk hi_2) (fun o108 v109 hq110 => ?_)
          obtain ⟨rfl, q111, h112, rfl⟩ := hq110
          have hb113 := h112
          refine w_if e62_55 (by omega) (fun (h114 : q111 = 0) => ?_) (fun (h114 : q111 ≠ 0) => ?_)
          ·
            refine w_ldI e62_79 (fun _ => rfl) rfl ?_
            refine w_kI e62_80 ?_
            refine w_ic e62_81 hi_1 (by omega) (fun (h115 : i1 ≠ 3) => ?_) (fun (h115 : i1 = 3) => ?_)
            ·
              refine w_ldI e62_93 (fun _ => rfl) rfl ?_
              refine w_kI e62_94 ?_
              refine w_ic e62_95 hi_1 (by omega) (fun (h116 : i1 ≠ 4) => ?_) (fun (h116 : i1 = 4) => ?_)
              ·
                refine w_x e62_107 (fun _ => rfl) ?_
                exact w_rn e62_108 rfl ⟨Z, al, loF_0, Or.inl ⟨rfl, fdn (by omega) (by omega) (by omega) (fun h8 h9 => by omega) (fun h8 h9 => by omega)⟩, hk, hM⟩
              ·
                refine w_ldI e62_98 (fun _ => rfl) rfl ?_
                refine w_if e62_99 hi_2 (fun (h117 : i2 ≠ 0) => ?_) (fun (h117 : i2 = 0) => ?_)
                ·
                  refine w_x e62_107 (fun _ => rfl) ?_
                  exact w_rn e62_108 rfl ⟨Z, al, loF_0, Or.inl ⟨rfl, fdn (by omega) (by omega) (by omega) (fun h8 h9 => by omega) (fun h8 h9 => by omega)⟩, hk, hM⟩
                ·
                  refine w_ldA e62_102 (fun _ => rfl) rfl ?_
                  refine w_get e62_103 e92 rfl ?_
                  exact w_ra e62_106 rfl ⟨Z, al, loF_0, Or.inr ⟨_, (rfl : ty 224 = 1), rfl, by rw [fd4 (by omega) (by omega)]; exact hcd⟩, hk, hM⟩
            ·
              refine w_ldI e62_84 (fun _ => rfl) rfl ?_
              refine w_if e62_85 hi_2 (fun (h118 : i2 ≠ 0) => ?_) (fun (h118 : i2 = 0) => ?_)
              ·
                refine w_ldI e62_93 (fun _ => rfl) rfl ?_
                refine w_kI e62_94 ?_
                refine w_ic e62_95 hi_1 (by omega) (fun (h119 : i1 ≠ 4) => ?_) (fun (h119 : i1 = 4) => ?_)
                ·
                  refine w_x e62_107 (fun _ => rfl) ?_
                  exact w_rn e62_108 rfl ⟨Z, al, loF_0, Or.inl ⟨rfl, fdn (by omega) (by omega) (by omega) (fun h8 h9 => by omega) (fun h8 h9 => by omega)⟩, hk, hM⟩
                ·
                  refine w_ldI e62_98 (fun _ => rfl) rfl ?_
                  refine w_if e62_99 hi_2 (fun (h120 : i2 ≠ 0) => ?_) (fun (h120 : i2 = 0) => ?_)
                  ·
                    refine w_x e62_107 (fun _ => rfl) ?_
                    exact w_rn e62_108 rfl ⟨Z, al, loF_0, Or.inl ⟨rfl, fdn (by omega) (by omega) (by omega) (fun h8 h9 => by omega) (fun h8 h9 => by omega)⟩, hk, hM⟩
                  ·
                    refine w_ldA e62_102 (fun _ => rfl) rfl ?_
                    refine w_get e62_103 e92 rfl ?_
                    exact w_ra e62_106 rfl ⟨Z, al, loF_0, Or.inr ⟨_, (rfl : ty 224 = 1), rfl, by rw [fd4 (by omega) (by omega)]; exact hcd⟩, hk, hM⟩
              ·
                refine w_ldA e62_88 (fun _ => rfl) rfl ?_
                refine w_get e62_89 e92 rfl ?_
                exact w_ra e62_92 rfl ⟨Z, al, loF_0, Or.inr ⟨_, (rfl : ty 227 = 1), rfl, by rw [fd3 (by omega) (by omega)]; exact hrm⟩, hk, hM⟩
          ·
            obtain ⟨hR, hBq, hc⟩ := hset (by omega)
            have hB1 := hBq.1
            have hB2 := hBq.2.1
            refine w_ldA e62_58 (fun _ => rfl) rfl ?_
            refine w_get e62_59 e92 rfl ?_
            refine w_ldA e62_62 (fun _ => rfl) rfl ?_
            refine w_get e62_63 e92 rfl ?_
            have e121 := tk_tri hM
            refine w_get e62_66 e121 rfl ?_
            refine w_ldI e62_69 (fun _ => rfl) rfl ?_
            have e122 := tk_mem hM
            have hm123 := mb_lt hBq (j := (i2).toNat) (by omega)
            have hm124 := mb_q hBq (j := (i2).toNat) (by omega)
            refine w_qld e62_70 e122 (by decide) (by omega) (by omega) (by decide) hm124 ?_
            have e125 := tk_poly hM (rfl : ty 234 = 1)
            have hk126 := hk 234 (rfl : ty 234 = 1)
            refine w_cv e62_71 (by decide) rfl e125 rfl (Nat.le_of_ble_eq_true rfl) (Nat.le_of_ble_eq_true rfl) (Nat.le_of_ble_eq_true rfl) (by decide) (by decide) (k20i hM hk (rfl : ty 234 = 1) (ty_ri (B.reverse.getD ((i2).toNat) 0) (by omega)) (by omega) (hR.1 (B.reverse.getD (i2).toNat 0) (by omega)).1.1 (hR.1 (B.reverse.getD (i2).toNat 0) (by omega)).1.2 hn8 (rw_p hR (by omega)) (rw_e hR (by omega))) (fun o127 v128 hq129 => ?_)
            obtain ⟨⟨Z130, al131, hf132, hci133, hk134, hM135⟩, rfl⟩ := hq129
            refine w_ldA e62_74 (fun _ => rfl) rfl ?_
            have e136 := tk_main hM135
            refine w_get e62_75 e136 rfl ?_
            exact w_ra e62_78 rfl ⟨Z130, al131, ⟨fun b _ b2 => hf132.1 b b2, fun b b1 b2 _ => hf132.2 b b1 b2⟩, Or.inr ⟨_, (rfl : ty 234 = 1), rfl, by rw [fd2 (by omega) (by omega)]; exact hci133⟩, hk134, hM135⟩
      ·
        refine w_ldA e62_24 (fun _ => rfl) rfl ?_
        refine w_ldI e62_25 (fun _ => rfl) rfl ?_
        refine w_cv e62_26 (by decide) rfl e92 rfl (Nat.le_of_ble_eq_true rfl) (Nat.le_of_ble_eq_true rfl) (Nat.le_of_ble_eq_true rfl) (by decide) (by decide) (k60 hM hk hi_2) (fun o137 v138 hq139 => ?_)
        obtain ⟨rfl, q140, h141, rfl⟩ := hq139
        have hb142 := h141
        refine w_if e62_29 (by omega) (fun (h143 : q140 = 0) => ?_) (fun (h143 : q140 ≠ 0) => ?_)
        ·
          refine w_ldI e62_45 (fun _ => rfl) rfl ?_
          refine w_kI e62_46 ?_
          refine w_ic e62_47 hi_1 (by omega) (fun (h144 : i1 ≠ 2) => ?_) (fun (h144 : i1 = 2) => ?_)
          ·
            refine w_ldI e62_79 (fun _ => rfl) rfl ?_
            refine w_kI e62_80 ?_
            refine w_ic e62_81 hi_1 (by omega) (fun (h145 : i1 ≠ 3) => ?_) (fun (h145 : i1 = 3) => ?_)
            ·
              refine w_ldI e62_93 (fun _ => rfl) rfl ?_
              refine w_kI e62_94 ?_
              refine w_ic e62_95 hi_1 (by omega) (fun (h146 : i1 ≠ 4) => ?_) (fun (h146 : i1 = 4) => ?_)
              ·
                refine w_x e62_107 (fun _ => rfl) ?_
                exact w_rn e62_108 rfl ⟨Z, al, loF_0, Or.inl ⟨rfl, fdn (by omega) (by omega) (by omega) (fun h8 h9 => by omega) (fun h8 h9 => by omega)⟩, hk, hM⟩
              ·
                refine w_ldI e62_98 (fun _ => rfl) rfl ?_
                refine w_if e62_99 hi_2 (fun (h147 : i2 ≠ 0) => ?_) (fun (h147 : i2 = 0) => ?_)
                ·
                  refine w_x e62_107 (fun _ => rfl) ?_
                  exact w_rn e62_108 rfl ⟨Z, al, loF_0, Or.inl ⟨rfl, fdn (by omega) (by omega) (by omega) (fun h8 h9 => by omega) (fun h8 h9 => by omega)⟩, hk, hM⟩
                ·
                  refine w_ldA e62_102 (fun _ => rfl) rfl ?_
                  refine w_get e62_103 e92 rfl ?_
                  exact w_ra e62_106 rfl ⟨Z, al, loF_0, Or.inr ⟨_, (rfl : ty 224 = 1), rfl, by rw [fd4 (by omega) (by omega)]; exact hcd⟩, hk, hM⟩
            ·
              refine w_ldI e62_84 (fun _ => rfl) rfl ?_
              refine w_if e62_85 hi_2 (fun (h148 : i2 ≠ 0) => ?_) (fun (h148 : i2 = 0) => ?_)
              ·
                refine w_ldI e62_93 (fun _ => rfl) rfl ?_
                refine w_kI e62_94 ?_
                refine w_ic e62_95 hi_1 (by omega) (fun (h149 : i1 ≠ 4) => ?_) (fun (h149 : i1 = 4) => ?_)
                ·
                  refine w_x e62_107 (fun _ => rfl) ?_
                  exact w_rn e62_108 rfl ⟨Z, al, loF_0, Or.inl ⟨rfl, fdn (by omega) (by omega) (by omega) (fun h8 h9 => by omega) (fun h8 h9 => by omega)⟩, hk, hM⟩
                ·
                  refine w_ldI e62_98 (fun _ => rfl) rfl ?_
                  refine w_if e62_99 hi_2 (fun (h150 : i2 ≠ 0) => ?_) (fun (h150 : i2 = 0) => ?_)
                  ·
                    refine w_x e62_107 (fun _ => rfl) ?_
                    exact w_rn e62_108 rfl ⟨Z, al, loF_0, Or.inl ⟨rfl, fdn (by omega) (by omega) (by omega) (fun h8 h9 => by omega) (fun h8 h9 => by omega)⟩, hk, hM⟩
                  ·
                    refine w_ldA e62_102 (fun _ => rfl) rfl ?_
                    refine w_get e62_103 e92 rfl ?_
                    exact w_ra e62_106 rfl ⟨Z, al, loF_0, Or.inr ⟨_, (rfl : ty 224 = 1), rfl, by rw [fd4 (by omega) (by omega)]; exact hcd⟩, hk, hM⟩
              ·
                refine w_ldA e62_88 (fun _ => rfl) rfl ?_
                refine w_get e62_89 e92 rfl ?_
                exact w_ra e62_92 rfl ⟨Z, al, loF_0, Or.inr ⟨_, (rfl : ty 227 = 1), rfl, by rw [fd3 (by omega) (by omega)]; exact hrm⟩, hk, hM⟩
          ·
            refine w_ldA e62_50 (fun _ => rfl) rfl ?_
            refine w_ldI e62_51 (fun _ => rfl) rfl ?_
            refine w_cv e62_52 (by decide) rfl e92 rfl (Nat.le_of_ble_eq_true rfl) (Nat.le_of_ble_eq_true rfl) (Nat.le_of_ble_eq_true rfl) (by decide) (by decide) (k60 hM hk hi_2) (fun o151 v152 hq153 => ?_)
            obtain ⟨rfl, q154, h155, rfl⟩ := hq153
            have hb156 := h155
            refine w_if e62_55 (by omega) (fun (h157 : q154 = 0) => ?_) (fun (h157 : q154 ≠ 0) => ?_)
            ·
              refine w_ldI e62_79 (fun _ => rfl) rfl ?_
              refine w_kI e62_80 ?_
              refine w_ic e62_81 hi_1 (by omega) (fun (h158 : i1 ≠ 3) => ?_) (fun (h158 : i1 = 3) => ?_)
              ·
                refine w_ldI e62_93 (fun _ => rfl) rfl ?_
                refine w_kI e62_94 ?_
                refine w_ic e62_95 hi_1 (by omega) (fun (h159 : i1 ≠ 4) => ?_) (fun (h159 : i1 = 4) => ?_)
                ·
                  refine w_x e62_107 (fun _ => rfl) ?_
                  exact w_rn e62_108 rfl ⟨Z, al, loF_0, Or.inl ⟨rfl, fdn (by omega) (by omega) (by omega) (fun h8 h9 => by omega) (fun h8 h9 => by omega)⟩, hk, hM⟩
                ·
                  refine w_ldI e62_98 (fun _ => rfl) rfl ?_
                  refine w_if e62_99 hi_2 (fun (h160 : i2 ≠ 0) => ?_) (fun (h160 : i2 = 0) => ?_)
                  ·
                    refine w_x e62_107 (fun _ => rfl) ?_
                    exact w_rn e62_108 rfl ⟨Z, al, loF_0, Or.inl ⟨rfl, fdn (by omega) (by omega) (by omega) (fun h8 h9 => by omega) (fun h8 h9 => by omega)⟩, hk, hM⟩
                  ·
                    refine w_ldA e62_102 (fun _ => rfl) rfl ?_
                    refine w_get e62_103 e92 rfl ?_
                    exact w_ra e62_106 rfl ⟨Z, al, loF_0, Or.inr ⟨_, (rfl : ty 224 = 1), rfl, by rw [fd4 (by omega) (by omega)]; exact hcd⟩, hk, hM⟩
              ·
                refine w_ldI e62_84 (fun _ => rfl) rfl ?_
                refine w_if e62_85 hi_2 (fun (h161 : i2 ≠ 0) => ?_) (fun (h161 : i2 = 0) => ?_)
                ·
                  refine w_ldI e62_93 (fun _ => rfl) rfl ?_
                  refine w_kI e62_94 ?_
                  refine w_ic e62_95 hi_1 (by omega) (fun (h162 : i1 ≠ 4) => ?_) (fun (h162 : i1 = 4) => ?_)
                  ·
                    refine w_x e62_107 (fun _ => rfl) ?_
                    exact w_rn e62_108 rfl ⟨Z, al, loF_0, Or.inl ⟨rfl, fdn (by omega) (by omega) (by omega) (fun h8 h9 => by omega) (fun h8 h9 => by omega)⟩, hk, hM⟩
                  ·
                    refine w_ldI e62_98 (fun _ => rfl) rfl ?_
                    refine w_if e62_99 hi_2 (fun (h163 : i2 ≠ 0) => ?_) (fun (h163 : i2 = 0) => ?_)
                    ·
                      refine w_x e62_107 (fun _ => rfl) ?_
                      exact w_rn e62_108 rfl ⟨Z, al, loF_0, Or.inl ⟨rfl, fdn (by omega) (by omega) (by omega) (fun h8 h9 => by omega) (fun h8 h9 => by omega)⟩, hk, hM⟩
                    ·
                      refine w_ldA e62_102 (fun _ => rfl) rfl ?_
                      refine w_get e62_103 e92 rfl ?_
                      exact w_ra e62_106 rfl ⟨Z, al, loF_0, Or.inr ⟨_, (rfl : ty 224 = 1), rfl, by rw [fd4 (by omega) (by omega)]; exact hcd⟩, hk, hM⟩
                ·
                  refine w_ldA e62_88 (fun _ => rfl) rfl ?_
                  refine w_get e62_89 e92 rfl ?_
                  exact w_ra e62_92 rfl ⟨Z, al, loF_0, Or.inr ⟨_, (rfl : ty 227 = 1), rfl, by rw [fd3 (by omega) (by omega)]; exact hrm⟩, hk, hM⟩
            ·
              obtain ⟨hR, hBq, hc⟩ := hset (by omega)
              have hB1 := hBq.1
              have hB2 := hBq.2.1
              refine w_ldA e62_58 (fun _ => rfl) rfl ?_
              refine w_get e62_59 e92 rfl ?_
              refine w_ldA e62_62 (fun _ => rfl) rfl ?_
              refine w_get e62_63 e92 rfl ?_
              have e164 := tk_tri hM
              refine w_get e62_66 e164 rfl ?_
              refine w_ldI e62_69 (fun _ => rfl) rfl ?_
              have e165 := tk_mem hM
              have hm166 := mb_lt hBq (j := (i2).toNat) (by omega)
              have hm167 := mb_q hBq (j := (i2).toNat) (by omega)
              refine w_qld e62_70 e165 (by decide) (by omega) (by omega) (by decide) hm167 ?_
              have e168 := tk_poly hM (rfl : ty 234 = 1)
              have hk169 := hk 234 (rfl : ty 234 = 1)
              refine w_cv e62_71 (by decide) rfl e168 rfl (Nat.le_of_ble_eq_true rfl) (Nat.le_of_ble_eq_true rfl) (Nat.le_of_ble_eq_true rfl) (by decide) (by decide) (k20i hM hk (rfl : ty 234 = 1) (ty_ri (B.reverse.getD ((i2).toNat) 0) (by omega)) (by omega) (hR.1 (B.reverse.getD (i2).toNat 0) (by omega)).1.1 (hR.1 (B.reverse.getD (i2).toNat 0) (by omega)).1.2 hn8 (rw_p hR (by omega)) (rw_e hR (by omega))) (fun o170 v171 hq172 => ?_)
              obtain ⟨⟨Z173, al174, hf175, hci176, hk177, hM178⟩, rfl⟩ := hq172
              refine w_ldA e62_74 (fun _ => rfl) rfl ?_
              have e179 := tk_main hM178
              refine w_get e62_75 e179 rfl ?_
              exact w_ra e62_78 rfl ⟨Z173, al174, ⟨fun b _ b2 => hf175.1 b b2, fun b b1 b2 _ => hf175.2 b b1 b2⟩, Or.inr ⟨_, (rfl : ty 234 = 1), rfl, by rw [fd2 (by omega) (by omega)]; exact hci176⟩, hk177, hM178⟩
        ·
          obtain ⟨hR, hBq, hc⟩ := hset (by omega)
          have hB1 := hBq.1
          have hB2 := hBq.2.1
          refine w_ldA e62_32 (fun _ => rfl) rfl ?_
          refine w_get e62_33 e92 rfl ?_
          have e180 := tk_tri hM
          refine w_get e62_36 e180 rfl ?_
          refine w_ldI e62_39 (fun _ => rfl) rfl ?_
          have e181 := tk_mem hM
          have hm182 := mb_lt hBq (j := (i2).toNat) (by omega)
          have hm183 := mb_q hBq (j := (i2).toNat) (by omega)
          refine w_qld e62_40 e181 (by decide) (by omega) (by omega) (by decide) hm183 ?_
          have e184 := tk_row hM (ty_ri (B.reverse.getD ((i2).toNat) 0) (by omega))
          refine w_get e62_41 e184 rfl ?_
          exact w_ra e62_44 rfl ⟨Z, al, loF_0, Or.inr ⟨_, (ty_r (ty_ri (B.reverse.getD ((i2).toNat) 0) (by omega))), rfl, by rw [fd1 (by omega) (by omega)]; exact (hR.1 (B.reverse.getD (i2).toNat 0) (by omega)).1.1⟩, hk, hM⟩
    ·
      refine w_ldA e62_12 (fun _ => rfl) rfl ?_
      refine w_get e62_13 e92 rfl ?_
      refine w_ldI e62_16 (fun _ => rfl) rfl ?_
      obtain ⟨f186, hf187, e185⟩ := tk_polys hM
      refine w_qld e62_17 e185 (by decide) (by omega) (by omega) (by decide) (hf187 _ (by omega)) ?_
      exact w_ra e62_18 rfl ⟨Z, al, loF_0, Or.inr ⟨_, (ty_pi ((i2).toNat) (by omega)), rfl, by rw [fd0 (by omega) (by omega)]; exact (hU (i2).toNat (by omega)).1⟩, hk, hM⟩
set_option maxRecDepth 100000 in
set_option maxHeartbeats 4000000 in
theorem k53i {Z : Nat → Nat → Int} {al : Nat → Nat → Int64} {ai : Nat → Nat → Int} {az : Nat → Nat → Int32} {mm : Nat → Option Nat} {sk : Nat} {v0 vh : vm_H} (hM : tk Z al ai az mm sk v0 vh) (hk : kn Z) {i1 : Int} (hi_1 : -2147483648 ≤ i1 ∧ i1 < 2147483648) {i2 : Int} (hi_2 : -2147483648 ≤ i2 ∧ i2 < 2147483648) {i3 : Int} (hi_3 : -2147483648 ≤ i3 ∧ i3 < 2147483648) {fr : Nat → Bool} {nv : Nat} {R : Nat → Po} {c : Nat} {B : List Nat} (hset : setK fr nv R c B Z al mm) (hp : 0 ≤ Z 1 0 ∧ Z 1 0 ≤ 16) {U : Nat → Po} {rm cd : Po} (hn8 : nv ≤ 8) (hU : usK nv (Z 1 0).toNat U Z al) (hrm : pL Z al 227 rm) (hcd : pL Z al 224 cd) : vm_Rp 3 69 53 [.ref 1, .int (vz i1), .int (vz i2), .int (vz i3)] vh (fun r v1 => ∃ (Z1 : Nat → Nat → Int) (al1 : Nat → Nat → Int64), loF Z Z1 al al1 ∧ r = some (.long (coF (fdF (Z 1 0) U (Z 217 0) (mbP fr nv R B) rm cd i1 i2) i3)) ∧ kn Z1 ∧ tk Z1 al1 ai az mm sk v0 v1) := by
  refine w_in (m := 1) ?_
  show vm_Wp _ _ _ 0 [some (.ref 1), some (.int (vz i1)), some (.int (vz i2)), some (.int (vz i3)), none] [] _ _
  refine w_ldA e53_0 (fun _ => rfl) rfl ?_
  refine w_ldI e53_1 (fun _ => rfl) rfl ?_
  refine w_ldI e53_2 (fun _ => rfl) rfl ?_
  have e1 := tk_main hM
  refine w_cv e53_3 (by decide) rfl e1 rfl (Nat.le_of_ble_eq_true rfl) (Nat.le_of_ble_eq_true rfl) (Nat.le_of_ble_eq_true rfl) (by decide) (by decide) (k62i hM hk hi_1 hi_2 hset hp hn8 hU hrm hcd) (fun o2 v3 hq4 => ?_)
  obtain ⟨Z5, al6, hf7, ⟨rfl, hfd12⟩ | ⟨a8, ha9, rfl, hfd12⟩, hk10, hM11⟩ := hq4
  ·
    refine w_stN (j := 4) (A1 := [some (.ref 1), some (.int (vz i1)), some (.int (vz i2)), some (.int (vz i3)), some (.null)]) e53_6 (fun _ => rfl) (by decide) rfl ?_
    refine w_ldN e53_8 (fun _ => rfl) rfl ?_
    refine w_x e53_10 (fun _ => rfl) ?_
    refine w_x e53_22 (fun _ => rfl) ?_
    exact w_rl e53_23 rfl ⟨Z5, al6, hf7, (by rw [co_n hfd12]; rfl), hk10, hM11⟩
  ·
    refine w_stA (j := 4) (A1 := [some (.ref 1), some (.int (vz i1)), some (.int (vz i2)), some (.int (vz i3)), some (.ref a8)]) e53_6 (fun _ => rfl) (by decide) rfl ?_
    refine w_ldA e53_8 (fun _ => rfl) rfl ?_
    refine w_x e53_10 (fun _ => rfl) ?_
    refine w_ldA e53_13 (fun _ => rfl) rfl ?_
    refine w_ldI e53_15 (fun _ => rfl) rfl ?_
    have e13 := tk_poly hM11 ha9
    have hk14 := hk10 a8 ha9
    refine w_cv e53_16 (by decide) rfl e13 rfl (Nat.le_of_ble_eq_true rfl) (Nat.le_of_ble_eq_true rfl) (Nat.le_of_ble_eq_true rfl) (by decide) (by decide) (k18 hM11 hk10 ha9 hi_3) (fun o15 v16 hq17 => ?_)
    obtain ⟨rfl, q18, h19, rfl⟩ := hq17
    have hb20 := h19
    refine w_if e53_19 (by omega) (fun (h21 : q18 ≠ 0) => ?_) (fun (h21 : q18 = 0) => ?_)
    ·
      refine w_ldA e53_24 (fun _ => rfl) rfl ?_
      refine w_get e53_26 e13 rfl ?_
      refine w_ldI e53_29 (fun _ => rfl) rfl ?_
      have e22 := tk_l60 hM11 (ty_p ha9).2
      refine w_lld e53_30 e22 (by omega) (by omega) (by decide) ?_
      exact w_rl e53_31 rfl ⟨Z5, al6, hf7, (by rw [co_c hfd12 (by omega)]), hk10, hM11⟩
    ·
      refine w_x e53_22 (fun _ => rfl) ?_
      exact w_rl e53_23 rfl ⟨Z5, al6, hf7, (by rw [co_z hfd12 (by omega)]; rfl), hk10, hM11⟩
set_option maxRecDepth 100000 in
set_option maxHeartbeats 4000000 in
theorem k54i {Z : Nat → Nat → Int} {al : Nat → Nat → Int64} {ai : Nat → Nat → Int} {az : Nat → Nat → Int32} {mm : Nat → Option Nat} {sk : Nat} {v0 vh : vm_H} (hM : tk Z al ai az mm sk v0 vh) (hk : kn Z) {i1 : Int} (hi_1 : -2147483648 ≤ i1 ∧ i1 < 2147483648) {i2 : Int} (hi_2 : -2147483648 ≤ i2 ∧ i2 < 2147483648) {i3 : Int} (hi_3 : -2147483648 ≤ i3 ∧ i3 < 2147483648) {fr : Nat → Bool} {nv : Nat} {R : Nat → Po} {c : Nat} {B : List Nat} (hset : setK fr nv R c B Z al mm) (hp : 0 ≤ Z 1 0 ∧ Z 1 0 ≤ 16) {U : Nat → Po} {rm cd : Po} (hn8 : nv ≤ 8) (hU : usK nv (Z 1 0).toNat U Z al) (hrm : pL Z al 227 rm) (hcd : pL Z al 224 cd) (hn : 0 ≤ Z 2 0 ∧ Z 2 0 ≤ 8) (hv : ∀ j, 0 ≤ ai 5 j ∧ ai 5 j < 8) : vm_Rp 3 69 54 [.ref 1, .int (vz i1), .int (vz i2), .int (vz i3)] vh (fun r v1 => ∃ (Z1 : Nat → Nat → Int) (al1 : Nat → Nat → Int64), loF Z Z1 al al1 ∧ r = some (.int (pwF (ai 5) (Z 2 0).toNat (fdF (Z 1 0) U (Z 217 0) (mbP fr nv R B) rm cd i1 i2) i3)) ∧ kn Z1 ∧ tk Z1 al1 ai az mm sk v0 v1) := by
  refine w_in (m := 1) ?_
  show vm_Wp _ _ _ 0 [some (.ref 1), some (.int (vz i1)), some (.int (vz i2)), some (.int (vz i3)), none] [] _ _
  refine w_ldA e54_0 (fun _ => rfl) rfl ?_
  refine w_ldI e54_1 (fun _ => rfl) rfl ?_
  refine w_ldI e54_2 (fun _ => rfl) rfl ?_
  have e1 := tk_main hM
  refine w_cv e54_3 (by decide) rfl e1 rfl (Nat.le_of_ble_eq_true rfl) (Nat.le_of_ble_eq_true rfl) (Nat.le_of_ble_eq_true rfl) (by decide) (by decide) (k62i hM hk hi_1 hi_2 hset hp hn8 hU hrm hcd) (fun o2 v3 hq4 => ?_)
  obtain ⟨Z5, al6, hf7, ⟨rfl, hfd12⟩ | ⟨a8, ha9, rfl, hfd12⟩, hk10, hM11⟩ := hq4
  ·
    refine w_stN (j := 4) (A1 := [some (.ref 1), some (.int (vz i1)), some (.int (vz i2)), some (.int (vz i3)), some (.null)]) e54_6 (fun _ => rfl) (by decide) rfl ?_
    refine w_ldN e54_8 (fun _ => rfl) rfl ?_
    refine w_x e54_10 (fun _ => rfl) ?_
    refine w_kI e54_22 ?_
    exact w_ri e54_23 rfl ⟨Z5, al6, hf7, (by rw [pw_n hfd12]), hk10, hM11⟩
  ·
    refine w_stA (j := 4) (A1 := [some (.ref 1), some (.int (vz i1)), some (.int (vz i2)), some (.int (vz i3)), some (.ref a8)]) e54_6 (fun _ => rfl) (by decide) rfl ?_
    refine w_ldA e54_8 (fun _ => rfl) rfl ?_
    refine w_x e54_10 (fun _ => rfl) ?_
    refine w_ldA e54_13 (fun _ => rfl) rfl ?_
    refine w_ldI e54_15 (fun _ => rfl) rfl ?_
    have e13 := tk_poly hM11 ha9
    have hk14 := hk10 a8 ha9
    refine w_cv e54_16 (by decide) rfl e13 rfl (Nat.le_of_ble_eq_true rfl) (Nat.le_of_ble_eq_true rfl) (Nat.le_of_ble_eq_true rfl) (by decide) (by decide) (k18 hM11 hk10 ha9 hi_3) (fun o15 v16 hq17 => ?_)
    obtain ⟨rfl, q18, h19, rfl⟩ := hq17
    have hb20 := h19
    refine w_if e54_19 (by omega) (fun (h21 : q18 ≠ 0) => ?_) (fun (h21 : q18 = 0) => ?_)
    ·
      refine w_ldA e54_24 (fun _ => rfl) rfl ?_
      have e22 := tk_main hM11
      refine w_get e54_25 e22 rfl ?_
      refine w_ldA e54_28 (fun _ => rfl) rfl ?_
      refine w_get e54_30 e13 rfl ?_
      refine w_ldI e54_33 (fun _ => rfl) rfl ?_
      have e23 := tk_l60 hM11 (ty_p ha9).1
      refine w_lld e54_34 e23 (by omega) (by omega) (by decide) ?_
      have e24 := tk_pla hM11
      refine w_cv e54_35 (by decide) rfl e24 rfl (Nat.le_of_ble_eq_true rfl) (Nat.le_of_ble_eq_true rfl) (Nat.le_of_ble_eq_true rfl) (by decide) (by decide) (c9x (tk_pla hM11) (tk_vars hM11) (by rw [hf7.1 2 (by decide) (by decide)]; exact hn) hv) (fun o25 v26 hq27 => ?_)
      obtain ⟨rfl, hr9⟩ := hq27
      obtain ⟨q28, hw30, h29⟩ := vz_ex (pof (ai 5) (((al6 (a8 + 1)) (i3).toNat)) (Z5 2 0).toNat)
      have hr8 : o25 = some (.int (vz q28)) := by rw [hr9, ← hw30]
      clear hr9
      subst hr8
      rw [hf7.1 2 (by decide) (by decide)] at hw30
      exact w_ri e54_38 rfl ⟨Z5, al6, hf7, (by rw [pw_c hfd12 (by omega), hw30]), hk10, hM11⟩
    ·
      refine w_kI e54_22 ?_
      exact w_ri e54_23 rfl ⟨Z5, al6, hf7, (by rw [pw_z hfd12 (by omega)]), hk10, hM11⟩
set_option maxRecDepth 100000 in
set_option maxHeartbeats 4000000 in
theorem k56i {Z : Nat → Nat → Int} {al : Nat → Nat → Int64} {ai : Nat → Nat → Int} {az : Nat → Nat → Int32} {mm : Nat → Option Nat} {sk : Nat} {v0 vh : vm_H} (hM : tk Z al ai az mm sk v0 vh) (hk : kn Z) {i1 : Int} (hi_1 : -2147483648 ≤ i1 ∧ i1 < 2147483648) {i2 : Int} (hi_2 : -2147483648 ≤ i2 ∧ i2 < 2147483648) {fr : Nat → Bool} {nv : Nat} {R : Nat → Po} {c : Nat} {B : List Nat} (hset : setK fr nv R c B Z al mm) (hp : 0 ≤ Z 1 0 ∧ Z 1 0 ≤ 16) {U : Nat → Po} {rm cd : Po} (hn8 : nv ≤ 8) (hU : usK nv (Z 1 0).toNat U Z al) (hrm : pL Z al 227 rm) (hcd : pL Z al 224 cd) (hn : 0 ≤ Z 2 0 ∧ Z 2 0 ≤ 8) (hv : ∀ j, 0 ≤ ai 5 j ∧ ai 5 j < 8) : vm_Rp 3 73 56 [.ref 1, .int (vz i1), .int (vz i2)] vh (fun r v1 => ∃ (Z1 : Nat → Nat → Int) (al1 : Nat → Nat → Int64), loF Z Z1 al al1 ∧ r = some (.long (vuF (al 4) (ai 5) (Z 2 0).toNat (fdF (Z 1 0) U (Z 217 0) (mbP fr nv R B) rm cd i1 i2))) ∧ kn Z1 ∧ tk Z1 al1 ai az mm sk v0 v1) := by
  refine w_in (m := 1) ?_
  show vm_Wp _ _ _ 0 [some (.ref 1), some (.int (vz i1)), some (.int (vz i2)), none] [] _ _
  refine w_ldA e56_0 (fun _ => rfl) rfl ?_
  refine w_ldI e56_1 (fun _ => rfl) rfl ?_
  refine w_ldI e56_2 (fun _ => rfl) rfl ?_
  have e1 := tk_main hM
  refine w_cv e56_3 (by decide) rfl e1 rfl (Nat.le_of_ble_eq_true rfl) (Nat.le_of_ble_eq_true rfl) (Nat.le_of_ble_eq_true rfl) (by decide) (by decide) (k62i hM hk hi_1 hi_2 hset hp hn8 hU hrm hcd) (fun o2 v3 hq4 => ?_)
  obtain ⟨Z5, al6, hf7, ⟨rfl, hfd12⟩ | ⟨a8, ha9, rfl, hfd12⟩, hk10, hM11⟩ := hq4
  ·
    refine w_stN (j := 3) (A1 := [some (.ref 1), some (.int (vz i1)), some (.int (vz i2)), some (.null)]) e56_6 (fun _ => rfl) (by decide) rfl ?_
    refine w_ldN e56_7 (fun _ => rfl) rfl ?_
    refine w_x e56_8 (fun _ => rfl) ?_
    refine w_x e56_11 (fun _ => rfl) ?_
    refine w_x e56_12 (fun _ => rfl) ?_
    exact w_rl e56_23 rfl ⟨Z5, al6, hf7, (by rw [vu_n hfd12]; rfl), hk10, hM11⟩
  ·
    refine w_stA (j := 3) (A1 := [some (.ref 1), some (.int (vz i1)), some (.int (vz i2)), some (.ref a8)]) e56_6 (fun _ => rfl) (by decide) rfl ?_
    refine w_ldA e56_7 (fun _ => rfl) rfl ?_
    refine w_x e56_8 (fun _ => rfl) ?_
    refine w_ldA e56_15 (fun _ => rfl) rfl ?_
    have e13 := tk_main hM11
    refine w_get e56_16 e13 rfl ?_
    refine w_ldA e56_19 (fun _ => rfl) rfl ?_
    have e14 := tk_pla hM11
    refine w_cv e56_20 (by decide) rfl e14 rfl (Nat.le_of_ble_eq_true rfl) (Nat.le_of_ble_eq_true rfl) (Nat.le_of_ble_eq_true rfl) (by decide) (by decide) (k13 hM11 hk10 ha9 (by rw [hf7.1 2 (by decide) (by decide)]; exact hn) hv) (fun o15 v16 hq17 => ?_)
    obtain ⟨rfl, rfl⟩ := hq17
    exact w_rl e56_23 rfl ⟨Z5, al6, hf7, (by rw [vu_c hfd12, hf7.2 4 (by decide) (by decide) (by decide), hf7.1 2 (by decide) (by decide)]), hk10, hM11⟩
