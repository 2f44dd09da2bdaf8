set_option maxRecDepth 100000 in
set_option maxHeartbeats 4000000 in
theorem k29 {Z : Nat → Nat → Int} {al : Nat → Nat → Int64} {ai : Nat → Nat → Int} {az : Nat → Nat → Int32} {mm : Nat → Option Nat} {sk : Nat} {v0 vh : vm_H} (hM : tk Z al ai az mm sk v0 vh) (hk : kn Z) {a0 : Nat} (ha_0 : ty a0 = 3) {a1 : Nat} (ha_1 : ty a1 = 1) {nv : Nat} (hn8 : nv ≤ 8) (ez : Z 2 0 = (nv : Int)) (hv : ∀ j, 0 ≤ ai 5 j ∧ ai 5 j < 8) {l : Po} (hL : pL Z al a1 l) (hg : gk nv l) (hne : a0 + 1 ≠ a1) : vm_Rp 3 75 29 [.ref a0, .ref a1, .ref 2] vh (fun r v1 => (∃ (Z1 : Nat → Nat → Int) (al1 : Nat → Nat → Int64), tkR nv (frK az ai) Z Z1 al al1 a0 (prP l) ∧ kn Z1 ∧ tk Z1 al1 ai az mm sk v0 v1) ∧ r = none) := by
  have ha2 := ty_a2 ha_0
  refine w_in (m := 0) ?_
  show vm_Wp _ _ _ 0 [some (.ref a0), some (.ref a1), some (.ref 2)] [] _ _
  refine w_ldA e29_0 (fun _ => rfl) rfl ?_
  have e1 := tk_row hM ha_0
  refine w_get e29_1 e1 rfl ?_
  refine w_ldA e29_4 (fun _ => rfl) rfl ?_
  have e2 := tk_poly hM (ty_r ha_0)
  have hk3 := hk (a0 + 1) (ty_r ha_0)
  refine w_cv e29_5 (by decide) rfl e2 rfl (Nat.le_of_ble_eq_true rfl) (Nat.le_of_ble_eq_true rfl) (Nat.le_of_ble_eq_true rfl) (by decide) (by decide) (k19 hM hk (ty_r ha_0) ha_1 hne) (fun o4 v5 hq6 => ?_)
  obtain ⟨⟨al7, hc8, hM9⟩, rfl⟩ := hq6
  obtain ⟨Z11, hd12⟩ : ∃ z, z = u2 Z (a0 + 1) 0 (Z a1 0) := ⟨_, rfl⟩
  rw [← hd12] at hM9
  have hk10 := kn_u hk hd12 (fun _ => hk a1 ha_1)
  refine w_ldA e29_8 (fun _ => rfl) rfl ?_
  have e13 := tk_row hM9 ha_0
  refine w_get e29_9 e13 rfl ?_
  have e14 := tk_poly hM9 (ty_r ha_0)
  have hk15 := hk10 (a0 + 1) (ty_r ha_0)
  refine w_cv e29_12 (by decide) rfl e14 rfl (Nat.le_of_ble_eq_true rfl) (Nat.le_of_ble_eq_true rfl) (Nat.le_of_ble_eq_true rfl) (by decide) (by decide) (k26 hM9 hk10 (ty_r ha_0) (pL_gl (pL_cp hL (by rw [hd12, u2_s]) hc8) hg)) (fun o16 v17 hq18 => ?_)
  obtain ⟨⟨al19, hp20, hM21⟩, rfl⟩ := hq18
  refine w_ldA e29_15 (fun _ => rfl) rfl ?_
  refine w_ldA e29_16 (fun _ => rfl) rfl ?_
  refine w_ldA e29_17 (fun _ => rfl) rfl ?_
  have e22 := tk_row hM21 ha_0
  refine w_get e29_18 e22 rfl ?_
  have e23 := tk_pla hM21
  have hn24 : 0 ≤ Z11 2 0 ∧ Z11 2 0 ≤ 8 := by rw [hd12, u2_a (by omega)]; omega
  refine w_cv e29_21 (by decide) rfl e23 rfl (Nat.le_of_ble_eq_true rfl) (Nat.le_of_ble_eq_true rfl) (Nat.le_of_ble_eq_true rfl) (by decide) (by decide) (k12 hM21 hk10 hn24 hv (ty_r ha_0)) (fun o25 v26 hq27 => ?_)
  obtain ⟨rfl, rfl⟩ := hq27
  have hp28 := mpk_bd (az 3) (ai 5) (fun p => dgk (al19 (a0 + 1 + 1)) p (Z11 (a0 + 1) 0).toNat) (Z11 2 0).toNat
  refine w_put e29_24 e22 (Nat.le_of_ble_eq_true rfl) rfl (fun v31 b29 h30 => ?_)
  obtain ⟨Z32, hd33, hM34⟩ : ∃ z, z = u2 Z11 a0 0 (mpk (az 3) (ai 5) (fun p => dgk (al19 (a0 + 1 + 1)) p (Z11 (a0 + 1) 0).toNat) (Z11 2 0).toNat) ∧ tk z al19 ai az mm sk v0 v31 := ⟨_, rfl, tk_Zr0 hM21 ha_0 (by omega) b29 h30⟩
  have hk35 := kn_u hk10 hd33 (fun h9 => absurd h9 (ty_not ha_0))
  refine w_ldA e29_27 (fun _ => rfl) rfl ?_
  refine w_ldA e29_28 (fun _ => rfl) rfl ?_
  have e36 := tk_row hM34 ha_0
  refine w_get e29_29 e36 rfl ?_
  refine w_kI e29_32 ?_
  refine w_ic e29_33 (tk_r hM34 a0 0) (by omega) (fun (h37 : Z32 a0 0 ≠ -1) => ?_) (fun (h37 : Z32 a0 0 = -1) => ?_)
  ·
    refine w_ldA e29_40 (fun _ => rfl) rfl ?_
    refine w_get e29_41 e36 rfl ?_
    refine w_ldA e29_44 (fun _ => rfl) rfl ?_
    refine w_get e29_45 e36 rfl ?_
    have e38 := tk_poly hM34 (ty_r ha_0)
    have hk39 := hk35 (a0 + 1) (ty_r ha_0)
    refine w_cv e29_48 (by decide) rfl e38 rfl (Nat.le_of_ble_eq_true rfl) (Nat.le_of_ble_eq_true rfl) (Nat.le_of_ble_eq_true rfl) (by decide) (by decide) (k22 hM34 hk35 (ty_r ha_0) (tk_r hM34 a0 0)) (fun o40 v41 hq42 => ?_)
    obtain ⟨rfl, rfl⟩ := hq42
    have hp43 := dgk_bd (al19 (a0 + 1 + 1)) (Z32 a0 0) (Z32 (a0 + 1) 0).toNat
    refine w_put e29_51 e36 (Nat.le_of_ble_eq_true rfl) rfl (fun v46 b44 h45 => ?_)
    obtain ⟨Z47, hd48, hM49⟩ : ∃ z, z = u2 Z32 a0 1 (dgk (al19 (a0 + 1 + 1)) (Z32 a0 0) (Z32 (a0 + 1) 0).toNat) ∧ tk z al19 ai az mm sk v0 v46 := ⟨_, rfl, tk_Zr1 hM34 ha_0 (by omega) b44 h45⟩
    have hk50 := kn_u hk35 hd48 (fun h9 => absurd h9 (ty_not ha_0))
    exact w_rv e29_54 rfl ⟨⟨Z47, al19, take_e hL hg hn8 ez (ty_a2 ha_0) hd12 hc8 hp20 hd33 hd48 (fun _ => rfl), hk50, hM49⟩, rfl⟩
  ·
    refine w_kI e29_36 ?_
    refine w_x e29_37 (fun _ => rfl) ?_
    refine w_put e29_51 e36 (Nat.le_of_ble_eq_true rfl) rfl (fun v53 b51 h52 => ?_)
    obtain ⟨Z54, hd55, hM56⟩ : ∃ z, z = u2 Z32 a0 1 0 ∧ tk z al19 ai az mm sk v0 v53 := ⟨_, rfl, tk_Zr1 hM34 ha_0 (by omega) b51 h52⟩
    have hk57 := kn_u hk35 hd55 (fun h9 => absurd h9 (ty_not ha_0))
    exact w_rv e29_54 rfl ⟨⟨Z54, al19, take_e hL hg hn8 ez (ty_a2 ha_0) hd12 hc8 hp20 hd33 hd55 (fun h9 => absurd (by omega) h9), hk57, hM56⟩, rfl⟩
set_option maxRecDepth 100000 in
set_option maxHeartbeats 4000000 in
theorem k30 {Z : Nat → Nat → Int} {al : Nat → Nat → Int64} {ai : Nat → Nat → Int} {az : Nat → Nat → Int32} {mm : Nat → Option Nat} {sk : Nat} {v0 vh : vm_H} (hM : tk Z al ai az mm sk v0 vh) (hk : kn Z) {a0 : Nat} (ha_0 : ty a0 = 3) {a1 : Nat} (ha_1 : ty a1 = 3) : vm_Rp 0 0 30 [.ref a0, .ref a1] vh (fun r v1 => vh = v1 ∧ ∃ q : Int, ((0 ≤ q ∧ q ≤ 1) ∧ (q = 1 ↔ ltK Z a0 a1)) ∧ r = some (.int (vz q))) := by
  refine w_in (m := 0) ?_
  show vm_Wp _ _ _ 0 [some (.ref a0), some (.ref a1)] [] _ _
  refine w_ldA e30_0 (fun _ => rfl) rfl ?_
  have e1 := tk_row hM ha_0
  refine w_get e30_1 e1 rfl ?_
  refine w_ldA e30_4 (fun _ => rfl) rfl ?_
  have e2 := tk_row hM ha_1
  refine w_get e30_5 e2 rfl ?_
  refine w_ic e30_8 (tk_r hM a0 0) (tk_r hM a1 0) (fun (h3 : Z a0 0 = Z a1 0) => ?_) (fun (h3 : Z a0 0 ≠ Z a1 0) => ?_)
  ·
    refine w_ldA e30_28 (fun _ => rfl) rfl ?_
    refine w_get e30_29 e1 rfl ?_
    refine w_ldA e30_32 (fun _ => rfl) rfl ?_
    refine w_get e30_33 e2 rfl ?_
    refine w_ic e30_36 (tk_r hM a0 1) (tk_r hM a1 1) (fun (h4 : Z a0 1 = Z a1 1) => ?_) (fun (h4 : Z a0 1 ≠ Z a1 1) => ?_)
    ·
      refine w_ldA e30_56 (fun _ => rfl) rfl ?_
      refine w_get e30_57 e1 rfl ?_
      have e5 := tk_poly hM (ty_r ha_0)
      have hk6 := hk (a0 + 1) (ty_r ha_0)
      refine w_get e30_60 e5 rfl ?_
      refine w_ldA e30_63 (fun _ => rfl) rfl ?_
      refine w_get e30_64 e2 rfl ?_
      have e7 := tk_poly hM (ty_r ha_1)
      have hk8 := hk (a1 + 1) (ty_r ha_1)
      refine w_get e30_67 e7 rfl ?_
      refine w_ic e30_70 (tk_r hM (a0 + 1) 0) (tk_r hM (a1 + 1) 0) (fun (h9 : Z (a1 + 1) 0 ≤ Z (a0 + 1) 0) => ?_) (fun (h9 : Z (a0 + 1) 0 < Z (a1 + 1) 0) => ?_)
      ·
        refine w_kI e30_77 ?_
        exact w_rz e30_78 rfl (by omega) ⟨rfl, 0, ⟨by omega, by unfold ltK; split <;> first | omega | (split <;> omega)⟩, rfl⟩
      ·
        refine w_kI e30_73 ?_
        refine w_x e30_74 (fun _ => rfl) ?_
        exact w_rz e30_78 rfl (by omega) ⟨rfl, 1, ⟨by omega, by unfold ltK; split <;> first | omega | (split <;> omega)⟩, rfl⟩
    ·
      refine w_ldA e30_39 (fun _ => rfl) rfl ?_
      refine w_get e30_40 e1 rfl ?_
      refine w_ldA e30_43 (fun _ => rfl) rfl ?_
      refine w_get e30_44 e2 rfl ?_
      refine w_ic e30_47 (tk_r hM a0 1) (tk_r hM a1 1) (fun (h10 : Z a1 1 ≤ Z a0 1) => ?_) (fun (h10 : Z a0 1 < Z a1 1) => ?_)
      ·
        refine w_kI e30_54 ?_
        exact w_rz e30_55 rfl (by omega) ⟨rfl, 0, ⟨by omega, by unfold ltK; split <;> first | omega | (split <;> omega)⟩, rfl⟩
      ·
        refine w_kI e30_50 ?_
        refine w_x e30_51 (fun _ => rfl) ?_
        exact w_rz e30_55 rfl (by omega) ⟨rfl, 1, ⟨by omega, by unfold ltK; split <;> first | omega | (split <;> omega)⟩, rfl⟩
  ·
    refine w_ldA e30_11 (fun _ => rfl) rfl ?_
    refine w_get e30_12 e1 rfl ?_
    refine w_ldA e30_15 (fun _ => rfl) rfl ?_
    refine w_get e30_16 e2 rfl ?_
    refine w_ic e30_19 (tk_r hM a0 0) (tk_r hM a1 0) (fun (h11 : Z a1 0 ≤ Z a0 0) => ?_) (fun (h11 : Z a0 0 < Z a1 0) => ?_)
    ·
      refine w_kI e30_26 ?_
      exact w_rz e30_27 rfl (by omega) ⟨rfl, 0, ⟨by omega, by unfold ltK; split <;> first | omega | (split <;> omega)⟩, rfl⟩
    ·
      refine w_kI e30_22 ?_
      refine w_x e30_23 (fun _ => rfl) ?_
      exact w_rz e30_27 rfl (by omega) ⟨rfl, 1, ⟨by omega, by unfold ltK; split <;> first | omega | (split <;> omega)⟩, rfl⟩
set_option maxRecDepth 100000 in
set_option maxHeartbeats 4000000 in
theorem k40_L {Z : Nat → Nat → Int} {al : Nat → Nat → Int64} {ai : Nat → Nat → Int} {az : Nat → Nat → Int32} {mm : Nat → Option Nat} {sk : Nat} {v0 vh : vm_H} (hM : tk Z al ai az mm sk v0 vh) (hk : kn Z) {a1 : Nat} (ha_1 : ty a1 = 3) {c : Nat} {B : List Nat} (hB : mbK Z mm B c) (hc : c ≤ 40) : ∀ N : Nat, (∀ (x2 : Int), (0 ≤ x2 ∧ x2 ≤ Z 217 0) → (0 < Z 217 0 → Z (57 + 4 * B.reverse.getD (Z 217 0 - 1).toNat 0) 0 < Z a1 0) → (∀ j : Nat, (j : Int) < x2 → dgk (al (a1 + 1 + 1)) (Z (57 + 4 * B.reverse.getD j 0) 0) (Z (a1 + 1) 0).toNat < Z (57 + 4 * B.reverse.getD j 0) 1) → ((9 - x2 : Int).toNat < N) → vm_Wp 2 53 40 32 [some (.ref 217), some (.ref a1), some (.int (vz x2))] [] vh (vq_P 40 (fun r v1 => vh = v1 ∧ ∃ q : Int, ((0 ≤ q ∧ q ≤ 1) ∧ (q = 1 ↔ ftK Z al B a1)) ∧ r = some (.int (vz q))))) := by
  have hB1 := hB.1
  have hB2 := hB.2.1
  intro N
  induction N with
  | zero => exact (by intros; omega)
  | succ N ih =>
    ·
      intro x2 hx2 hi0 hi1 hN
      refine w_ldI e40_32 (fun _ => rfl) rfl ?_
      refine w_ldA e40_33 (fun _ => rfl) rfl ?_
      have e9 := tk_tri hM
      refine w_get e40_34 e9 rfl ?_
      refine w_ic e40_37 (by omega) (tk_r hM 217 0) (fun (h10 : Z 217 0 ≤ x2) => ?_) (fun (h10 : x2 < Z 217 0) => ?_)
      ·
        refine w_kI e40_76 ?_
        exact w_rz e40_77 rfl (by omega) ⟨rfl, 1, ⟨by omega, fun _ => ⟨hi0, fun j hj => hi1 j (by omega)⟩, fun _ => rfl⟩, rfl⟩
      ·
        refine w_ldA e40_40 (fun _ => rfl) rfl ?_
        have e11 := tk_row hM ha_1
        refine w_get e40_41 e11 rfl ?_
        refine w_ldA e40_44 (fun _ => rfl) rfl ?_
        refine w_get e40_45 e9 rfl ?_
        refine w_ldI e40_48 (fun _ => rfl) rfl ?_
        have e12 := tk_mem hM
        have hm13 := mb_lt hB (j := (x2).toNat) (by omega)
        have hm14 := mb_q hB (j := (x2).toNat) (by omega)
        refine w_qld e40_49 e12 (by decide) (by omega) (by omega) (by decide) hm14 ?_
        have e15 := tk_row hM (ty_ri (B.reverse.getD ((x2).toNat) 0) (by omega))
        refine w_get e40_50 e15 rfl ?_
        have e16 := tk_poly hM (ty_r ha_1)
        have hk17 := hk (a1 + 1) (ty_r ha_1)
        refine w_cv e40_53 (by decide) rfl e16 rfl (Nat.le_of_ble_eq_true rfl) (Nat.le_of_ble_eq_true rfl) (Nat.le_of_ble_eq_true rfl) (by decide) (by decide) (k22 hM hk (ty_r ha_1) (tk_r hM (57 + 4 * B.reverse.getD ((x2).toNat) 0) 0)) (fun o18 v19 hq20 => ?_)
        obtain ⟨rfl, rfl⟩ := hq20
        have hp21 := dgk_bd (al (a1 + 1 + 1)) (Z (57 + 4 * B.reverse.getD ((x2).toNat) 0) 0) (Z (a1 + 1) 0).toNat
        refine w_ldA e40_56 (fun _ => rfl) rfl ?_
        refine w_get e40_57 e9 rfl ?_
        refine w_ldI e40_60 (fun _ => rfl) rfl ?_
        have hm22 := mb_lt hB (j := (x2).toNat) (by omega)
        have hm23 := mb_q hB (j := (x2).toNat) (by omega)
        refine w_qld e40_61 e12 (by decide) (by omega) (by omega) (by decide) hm23 ?_
        refine w_get e40_62 e15 rfl ?_
        refine w_ic e40_65 (by omega) (tk_r hM (57 + 4 * B.reverse.getD ((x2).toNat) 0) 1) (fun (h24 : dgk (al (a1 + 1 + 1)) (Z (57 + 4 * B.reverse.getD ((x2).toNat) 0) 0) (Z (a1 + 1) 0).toNat < Z (57 + 4 * B.reverse.getD ((x2).toNat) 0) 1) => ?_) (fun (h24 : Z (57 + 4 * B.reverse.getD ((x2).toNat) 0) 1 ≤ dgk (al (a1 + 1 + 1)) (Z (57 + 4 * B.reverse.getD ((x2).toNat) 0) 0) (Z (a1 + 1) 0).toNat) => ?_)
        ·
          refine w_iinc (A1 := [some (.ref 217), some (.ref a1), some (.int (vz (x2 + 1)))]) e40_70 rfl (by decide) rfl ?_
          refine w_x e40_73 (fun _ => rfl) ?_
          exact w_sub (A1 := [some (.ref 217), some (.ref a1), some (.int (vz (x2 + 1)))]) (And.intro rfl (And.intro rfl (And.intro rfl trivial))) ((ih) (x2 + 1) (by omega) hi0 (fun j hj => by by_cases h9 : (j : Int) < x2; exact hi1 j h9; rw [show j = (x2).toNat by omega]; exact h24) (by omega))
        ·
          refine w_kI e40_68 ?_
          exact w_rz e40_69 rfl (by omega) ⟨rfl, 0, ⟨by omega, fun h9 => absurd h9 (by decide), fun h9 => by have h8 := h9.2 (x2).toNat (by omega); omega⟩, rfl⟩
set_option maxRecDepth 100000 in
set_option maxHeartbeats 4000000 in
theorem k40 {Z : Nat → Nat → Int} {al : Nat → Nat → Int64} {ai : Nat → Nat → Int} {az : Nat → Nat → Int32} {mm : Nat → Option Nat} {sk : Nat} {v0 vh : vm_H} (hM : tk Z al ai az mm sk v0 vh) (hk : kn Z) {a1 : Nat} (ha_1 : ty a1 = 3) {c : Nat} {B : List Nat} (hB : mbK Z mm B c) (hc : c ≤ 40) : vm_Rp 2 53 40 [.ref 217, .ref a1] vh (fun r v1 => vh = v1 ∧ ∃ q : Int, ((0 ≤ q ∧ q ≤ 1) ∧ (q = 1 ↔ ftK Z al B a1)) ∧ r = some (.int (vz q))) := by
  have hB1 := hB.1
  have hB2 := hB.2.1
  refine w_in (m := 1) ?_
  show vm_Wp _ _ _ 0 [some (.ref 217), some (.ref a1), none] [] _ _
  refine w_ldA e40_0 (fun _ => rfl) rfl ?_
  have e1 := tk_tri hM
  refine w_get e40_1 e1 rfl ?_
  refine w_if e40_4 (tk_r hM 217 0) (fun (h2 : Z 217 0 ≤ 0) => ?_) (fun (h2 : 0 < Z 217 0) => ?_)
  ·
    refine w_kI e40_30 ?_
    refine w_stI (j := 2) (A1 := [some (.ref 217), some (.ref a1), some (.int (vz 0))]) e40_31 (fun _ => rfl) (by decide) rfl ?_
    exact w_sub (A1 := [some (.ref 217), some (.ref a1), some (.int (vz 0))]) (And.intro rfl (And.intro rfl (And.intro rfl trivial))) (((k40_L (Z := Z) (al := al) (ai := ai) (az := az) (mm := mm) (sk := sk) (v0 := v0) (vh := vh) (a1 := a1) (c := c) (B := B) hM hk ha_1 hB hc _)) 0 (by omega) (fun h9 => by omega) (fun j hj => by omega) (Nat.lt_succ_self _))
  ·
    refine w_ldA e40_7 (fun _ => rfl) rfl ?_
    have e3 := tk_row hM ha_1
    refine w_get e40_8 e3 rfl ?_
    refine w_ldA e40_11 (fun _ => rfl) rfl ?_
    refine w_get e40_12 e1 rfl ?_
    refine w_ldA e40_15 (fun _ => rfl) rfl ?_
    refine w_get e40_16 e1 rfl ?_
    refine w_kI e40_19 ?_
    refine w_isub e40_20 ?_
    have e4 := tk_mem hM
    have hm5 := mb_lt hB (j := ((Z 217 0) - 1).toNat) (by omega)
    have hm6 := mb_q hB (j := ((Z 217 0) - 1).toNat) (by omega)
    refine w_qld e40_21 e4 (by decide) (by omega) (by omega) (by decide) hm6 ?_
    have e7 := tk_row hM (ty_ri (B.reverse.getD (((Z 217 0) - 1).toNat) 0) (by omega))
    refine w_get e40_22 e7 rfl ?_
    refine w_ic e40_25 (tk_r hM a1 0) (tk_r hM (57 + 4 * B.reverse.getD (((Z 217 0) - 1).toNat) 0) 0) (fun (h8 : Z (57 + 4 * B.reverse.getD (((Z 217 0) - 1).toNat) 0) 0 < Z a1 0) => ?_) (fun (h8 : Z a1 0 ≤ Z (57 + 4 * B.reverse.getD (((Z 217 0) - 1).toNat) 0) 0) => ?_)
    ·
      refine w_kI e40_30 ?_
      refine w_stI (j := 2) (A1 := [some (.ref 217), some (.ref a1), some (.int (vz 0))]) e40_31 (fun _ => rfl) (by decide) rfl ?_
      exact w_sub (A1 := [some (.ref 217), some (.ref a1), some (.int (vz 0))]) (And.intro rfl (And.intro rfl (And.intro rfl trivial))) (((k40_L (Z := Z) (al := al) (ai := ai) (az := az) (mm := mm) (sk := sk) (v0 := v0) (vh := vh) (a1 := a1) (c := c) (B := B) hM hk ha_1 hB hc _)) 0 (by omega) (fun h9 => by omega) (fun j hj => by omega) (Nat.lt_succ_self _))
    ·
      refine w_kI e40_28 ?_
      exact w_rz e40_29 rfl (by omega) ⟨rfl, 0, ⟨by omega, fun h9 => absurd h9 (by decide), fun h9 => by have h8 := h9.1 (by omega); omega⟩, rfl⟩
set_option maxRecDepth 100000 in
set_option maxHeartbeats 4000000 in
theorem k39_L {Z : Nat → Nat → Int} {al : Nat → Nat → Int64} {ai : Nat → Nat → Int} {az : Nat → Nat → Int32} {mm : Nat → Option Nat} {sk : Nat} {v0 vh : vm_H} (hM : tk Z al ai az mm sk v0 vh) (hk : kn Z) {i2 : Int} (hi_2 : 0 ≤ i2 ∧ i2 ≤ 40) {fr : Nat → Bool} {nv : Nat} {R : Nat → Po} {c : Nat} {B : List Nat} (hR : rwK fr nv Z al R c) (hB : mbK Z mm B c) (hc : c ≤ 40) (hn8 : nv ≤ 8) (hic : i2 = (c : Int)) : ∀ N : Nat, (∀ (x4 : Int), (0 ≤ x4 ∧ x4 ≤ i2) → (lsI fr nv R B c (x4).toNat none) → ((41 - x4 : Int).toNat < N) → vm_Wp 3 75 39 5 [some (.ref 217), some (.ref 56), some (.int (vz i2)), some (.null), some (.int (vz x4))] [] vh (vq_P 39 (fun r v1 => vh = v1 ∧ ((lsP fr nv R B c = none ∧ r = some .null) ∨ ∃ b, b < c ∧ lsP fr nv R B c = some b ∧ r = some (.ref (57 + 4 * b)))))) ∧ (∀ (z3 : Nat) (x4 : Int), (ty z3 = 3) → (0 ≤ x4 ∧ x4 ≤ i2) → (lsI fr nv R B c (x4).toNat (some z3)) → ((41 - x4 : Int).toNat < N) → vm_Wp 3 75 39 5 [some (.ref 217), some (.ref 56), some (.int (vz i2)), some (.ref z3), some (.int (vz x4))] [] vh (vq_P 39 (fun r v1 => vh = v1 ∧ ((lsP fr nv R B c = none ∧ r = some .null) ∨ ∃ b, b < c ∧ lsP fr nv R B c = some b ∧ r = some (.ref (57 + 4 * b)))))) := by
  have hB1 := hB.1
  have hB2 := hB.2.1
  intro N
  induction N with
  | zero => exact ⟨by intros; omega, by intros; omega⟩
  | succ N ih =>
    refine ⟨?_, ?_⟩
    ·
      intro x4 hx4 hi0 hN
      refine w_ldI e39_5 (fun _ => rfl) rfl ?_
      refine w_ldI e39_7 (fun _ => rfl) rfl ?_
      refine w_ic e39_8 (by omega) (by omega) (fun (h1 : i2 ≤ x4) => ?_) (fun (h1 : x4 < i2) => ?_)
      ·
        refine w_ldN e39_48 (fun _ => rfl) rfl ?_
        exact w_rn e39_49 rfl ⟨rfl, Or.inl ⟨by have h9 := hi0; rw [show (x4).toNat = c by omega] at h9; exact h9, rfl⟩⟩
      ·
        refine w_ldA e39_11 (fun _ => rfl) rfl ?_
        refine w_ldA e39_12 (fun _ => rfl) rfl ?_
        refine w_ldI e39_13 (fun _ => rfl) rfl ?_
        obtain ⟨f3, hf4, e2⟩ := tk_rows hM
        refine w_qld e39_15 e2 (by decide) (by omega) (by omega) (by decide) (hf4 _ (by omega)) ?_
        have e5 := tk_tri hM
        refine w_cv e39_16 (by decide) rfl e5 rfl (Nat.le_of_ble_eq_true rfl) (Nat.le_of_ble_eq_true rfl) (Nat.le_of_ble_eq_true rfl) (by decide) (by decide) (k40 hM hk (ty_ri ((x4).toNat) (by omega)) hB hc) (fun o6 v7 hq8 => ?_)
        obtain ⟨rfl, q9, h10, rfl⟩ := hq8
        have hb11 := h10.1
        refine w_if e39_19 (by omega) (fun (h12 : q9 = 0) => ?_) (fun (h12 : q9 ≠ 0) => ?_)
        ·
          refine w_iinc (A1 := [some (.ref 217), some (.ref 56), some (.int (vz i2)), some (.null), some (.int (vz (x4 + 1)))]) e39_42 rfl (by decide) rfl ?_
          refine w_x e39_45 (fun _ => rfl) ?_
          exact w_sub (A1 := [some (.ref 217), some (.ref 56), some (.int (vz i2)), some (.null), some (.int (vz (x4 + 1)))]) (And.intro rfl (And.intro rfl (And.intro rfl (And.intro rfl (And.intro rfl trivial))))) ((ih.1) (x4 + 1) (by omega) (ls_a hR hB hn8 (by omega) hi0 h10.2 (by omega)) (by omega))
        ·
          refine w_ldN e39_22 (fun _ => rfl) rfl ?_
          refine w_x e39_23 (fun _ => rfl) ?_
          refine w_ldA e39_37 (fun _ => rfl) rfl ?_
          refine w_ldI e39_38 (fun _ => rfl) rfl ?_
          refine w_qld e39_40 e2 (by decide) (by omega) (by omega) (by decide) (hf4 _ (by omega)) ?_
          refine w_stA (j := 3) (A1 := [some (.ref 217), some (.ref 56), some (.int (vz i2)), some (.ref (57 + 4 * (x4).toNat)), some (.int (vz x4))]) e39_41 (fun _ => rfl) (by decide) rfl ?_
          refine w_iinc (A1 := [some (.ref 217), some (.ref 56), some (.int (vz i2)), some (.ref (57 + 4 * (x4).toNat)), some (.int (vz (x4 + 1)))]) e39_42 rfl (by decide) rfl ?_
          refine w_x e39_45 (fun _ => rfl) ?_
          exact w_sub (A1 := [some (.ref 217), some (.ref 56), some (.int (vz i2)), some (.ref (57 + 4 * (x4).toNat)), some (.int (vz (x4 + 1)))]) (And.intro rfl (And.intro rfl (And.intro rfl (And.intro rfl (And.intro rfl trivial))))) ((ih.2) (57 + 4 * (x4).toNat) (x4 + 1) (ty_ri ((x4).toNat) (by omega)) (by omega) (ls_b hR hB hn8 (by omega) hi0 h10.2 (by omega)) (by omega))
    ·
      intro z3 x4 hz3 hx4 hi0 hN
      refine w_ldI e39_5 (fun _ => rfl) rfl ?_
      refine w_ldI e39_7 (fun _ => rfl) rfl ?_
      refine w_ic e39_8 (by omega) (by omega) (fun (h13 : i2 ≤ x4) => ?_) (fun (h13 : x4 < i2) => ?_)
      ·
        refine w_ldA e39_48 (fun _ => rfl) rfl ?_
        exact w_ra e39_49 rfl ⟨rfl, Or.inr (by have h9 := hi0; rw [show (x4).toNat = c by omega] at h9; exact ls_fin h9)⟩
      ·
        refine w_ldA e39_11 (fun _ => rfl) rfl ?_
        refine w_ldA e39_12 (fun _ => rfl) rfl ?_
        refine w_ldI e39_13 (fun _ => rfl) rfl ?_
        obtain ⟨f15, hf16, e14⟩ := tk_rows hM
        refine w_qld e39_15 e14 (by decide) (by omega) (by omega) (by decide) (hf16 _ (by omega)) ?_
        have e17 := tk_tri hM
        refine w_cv e39_16 (by decide) rfl e17 rfl (Nat.le_of_ble_eq_true rfl) (Nat.le_of_ble_eq_true rfl) (Nat.le_of_ble_eq_true rfl) (by decide) (by decide) (k40 hM hk (ty_ri ((x4).toNat) (by omega)) hB hc) (fun o18 v19 hq20 => ?_)
        obtain ⟨rfl, q21, h22, rfl⟩ := hq20
        have hb23 := h22.1
        refine w_if e39_19 (by omega) (fun (h24 : q21 = 0) => ?_) (fun (h24 : q21 ≠ 0) => ?_)
        ·
          refine w_iinc (A1 := [some (.ref 217), some (.ref 56), some (.int (vz i2)), some (.ref z3), some (.int (vz (x4 + 1)))]) e39_42 rfl (by decide) rfl ?_
          refine w_x e39_45 (fun _ => rfl) ?_
          exact w_sub (A1 := [some (.ref 217), some (.ref 56), some (.int (vz i2)), some (.ref z3), some (.int (vz (x4 + 1)))]) (And.intro rfl (And.intro rfl (And.intro rfl (And.intro rfl (And.intro rfl trivial))))) ((ih.2) z3 (x4 + 1) hz3 (by omega) (ls_a hR hB hn8 (by omega) hi0 h22.2 (by omega)) (by omega))
        ·
          refine w_ldA e39_22 (fun _ => rfl) rfl ?_
          refine w_x e39_23 (fun _ => rfl) ?_
          refine w_ldA e39_26 (fun _ => rfl) rfl ?_
          refine w_ldI e39_27 (fun _ => rfl) rfl ?_
          refine w_qld e39_29 e14 (by decide) (by omega) (by omega) (by decide) (hf16 _ (by omega)) ?_
          refine w_ldA e39_30 (fun _ => rfl) rfl ?_
          have e25 := tk_row hM (ty_ri ((x4).toNat) (by omega))
          refine w_cv e39_31 (by decide) rfl e25 rfl (Nat.le_of_ble_eq_true rfl) (Nat.le_of_ble_eq_true rfl) (Nat.le_of_ble_eq_true rfl) (by decide) (by decide) (k30 hM hk (ty_ri ((x4).toNat) (by omega)) hz3) (fun o26 v27 hq28 => ?_)
          obtain ⟨rfl, q29, h30, rfl⟩ := hq28
          have hb31 := h30.1
          refine w_if e39_34 (by omega) (fun (h32 : q29 = 0) => ?_) (fun (h32 : q29 ≠ 0) => ?_)
          ·
            refine w_iinc (A1 := [some (.ref 217), some (.ref 56), some (.int (vz i2)), some (.ref z3), some (.int (vz (x4 + 1)))]) e39_42 rfl (by decide) rfl ?_
            refine w_x e39_45 (fun _ => rfl) ?_
            exact w_sub (A1 := [some (.ref 217), some (.ref 56), some (.int (vz i2)), some (.ref z3), some (.int (vz (x4 + 1)))]) (And.intro rfl (And.intro rfl (And.intro rfl (And.intro rfl (And.intro rfl trivial))))) ((ih.2) z3 (x4 + 1) hz3 (by omega) (ls_d hR hB hn8 (by omega) hi0 h22.2 (by omega) h30.2 (by omega)) (by omega))
          ·
            refine w_ldA e39_37 (fun _ => rfl) rfl ?_
            refine w_ldI e39_38 (fun _ => rfl) rfl ?_
            refine w_qld e39_40 e14 (by decide) (by omega) (by omega) (by decide) (hf16 _ (by omega)) ?_
            refine w_stA (j := 3) (A1 := [some (.ref 217), some (.ref 56), some (.int (vz i2)), some (.ref (57 + 4 * (x4).toNat)), some (.int (vz x4))]) e39_41 (fun _ => rfl) (by decide) rfl ?_
            refine w_iinc (A1 := [some (.ref 217), some (.ref 56), some (.int (vz i2)), some (.ref (57 + 4 * (x4).toNat)), some (.int (vz (x4 + 1)))]) e39_42 rfl (by decide) rfl ?_
            refine w_x e39_45 (fun _ => rfl) ?_
            exact w_sub (A1 := [some (.ref 217), some (.ref 56), some (.int (vz i2)), some (.ref (57 + 4 * (x4).toNat)), some (.int (vz (x4 + 1)))]) (And.intro rfl (And.intro rfl (And.intro rfl (And.intro rfl (And.intro rfl trivial))))) ((ih.2) (57 + 4 * (x4).toNat) (x4 + 1) (ty_ri ((x4).toNat) (by omega)) (by omega) (ls_c hR hB hn8 (by omega) hi0 h22.2 (by omega) h30.2 (by omega)) (by omega))
set_option maxRecDepth 100000 in
set_option maxHeartbeats 4000000 in
theorem k39 {Z : Nat → Nat → Int} {al : Nat → Nat → Int64} {ai : Nat → Nat → Int} {az : Nat → Nat → Int32} {mm : Nat → Option Nat} {sk : Nat} {v0 vh : vm_H} (hM : tk Z al ai az mm sk v0 vh) (hk : kn Z) {i2 : Int} (hi_2 : 0 ≤ i2 ∧ i2 ≤ 40) {fr : Nat → Bool} {nv : Nat} {R : Nat → Po} {c : Nat} {B : List Nat} (hR : rwK fr nv Z al R c) (hB : mbK Z mm B c) (hc : c ≤ 40) (hn8 : nv ≤ 8) (hic : i2 = (c : Int)) : vm_Rp 3 75 39 [.ref 217, .ref 56, .int (vz i2)] vh (fun r v1 => vh = v1 ∧ ((lsP fr nv R B c = none ∧ r = some .null) ∨ ∃ b, b < c ∧ lsP fr nv R B c = some b ∧ r = some (.ref (57 + 4 * b)))) := by
  have hB1 := hB.1
  have hB2 := hB.2.1
  refine w_in (m := 2) ?_
  show vm_Wp _ _ _ 0 [some (.ref 217), some (.ref 56), some (.int (vz i2)), none, none] [] _ _
  refine w_x e39_0 (fun _ => rfl) ?_
  refine w_stN (j := 3) (A1 := [some (.ref 217), some (.ref 56), some (.int (vz i2)), some (.null), none]) e39_1 (fun _ => rfl) (by decide) rfl ?_
  refine w_kI e39_2 ?_
  refine w_stI (j := 4) (A1 := [some (.ref 217), some (.ref 56), some (.int (vz i2)), some (.null), some (.int (vz 0))]) e39_3 (fun _ => rfl) (by decide) rfl ?_
  exact w_sub (A1 := [some (.ref 217), some (.ref 56), some (.int (vz i2)), some (.null), some (.int (vz 0))]) (And.intro rfl (And.intro rfl (And.intro rfl (And.intro rfl (And.intro rfl trivial))))) (((k39_L (Z := Z) (al := al) (ai := ai) (az := az) (mm := mm) (sk := sk) (v0 := v0) (vh := vh) (i2 := i2) (fr := fr) (nv := nv) (R := R) (c := c) (B := B) hM hk hi_2 hR hB hc hn8 hic _).1) 0 (by omega) rfl (Nat.lt_succ_self _))
set_option maxRecDepth 100000 in
set_option maxHeartbeats 4000000 in
theorem k38_L {Z : Nat → Nat → Int} {al : Nat → Nat → Int64} {ai : Nat → Nat → Int} {az : Nat → Nat → Int32} {mm : Nat → Option Nat} {sk : Nat} {v0 : vm_H} (hk : kn Z) {i2 : Int} (hi_2 : 0 ≤ i2 ∧ i2 ≤ 40) {fr : Nat → Bool} {nv : Nat} {R : Nat → Po} {c : Nat} (hR : rwK fr nv Z al R c) (hc : c ≤ 40) (hn8 : nv ≤ 8) (hic : i2 = (c : Int)) : ∀ N : Nat, (∀ (vh : vm_H) (Z_ : Nat → Nat → Int) (mm_ : Nat → Option Nat), (tk Z_ al ai az mm_ sk v0 vh) → (kn Z_) → (tbbI fr nv R c Z Z_ mm_) → ((8 - Z_ 217 0 : Int).toNat < N) → vm_Wp 4 99 38 5 [some (.ref 217), some (.ref 56), some (.int (vz i2)), none] [] vh (vq_P 38 (fun r v1 => (∃ (Z1 : Nat → Nat → Int) (mm1 : Nat → Option Nat), (Z1 = u2 Z 217 0 ((bsP fr nv R c 8 []).length : Int) ∧ mbK Z1 mm1 (bsP fr nv R c 8 []) c) ∧ kn Z1 ∧ tk Z1 al ai az mm1 sk v0 v1) ∧ r = none))) := by
  intro N
  induction N with
  | zero => exact (by intros; omega)
  | succ N ih =>
    ·
      intro vh Z_ mm_ hM hk_ hi0 hN
      obtain ⟨B, hB, hb1, hZe⟩ := hi0
      have hB1 := hB.1
      have hB2 := hB.2.1
      have hR_ := rwK_u hR hc hZe
      refine w_ldA e38_5 (fun _ => rfl) rfl ?_
      have e10 := tk_tri hM
      refine w_get e38_6 e10 rfl ?_
      refine w_kB e38_9 rfl ?_
      refine w_ic e38_11 (tk_r hM 217 0) (by omega) (fun (h11 : 8 ≤ Z_ 217 0) => ?_) (fun (h11 : Z_ 217 0 < 8) => ?_)
      ·
        exact w_rv e38_49 rfl ⟨⟨Z_, mm_, by have h9 := tbb_e (Or.inr (by omega)) hb1; rw [h9]; exact ⟨hZe, hB⟩, hk_, hM⟩, rfl⟩
      ·
        refine w_ldA e38_14 (fun _ => rfl) rfl ?_
        refine w_ldA e38_15 (fun _ => rfl) rfl ?_
        refine w_ldI e38_16 (fun _ => rfl) rfl ?_
        refine w_cv e38_17 (by decide) rfl e10 rfl (Nat.le_of_ble_eq_true rfl) (Nat.le_of_ble_eq_true rfl) (Nat.le_of_ble_eq_true rfl) (by decide) (by decide) (k39 hM hk_  (by omega) hR_ hB hc hn8 (by omega)) (fun o12 v13 hq14 => ?_)
        obtain ⟨rfl, ⟨hl15, rfl⟩ | ⟨b16, hb17, hl15, rfl⟩⟩ := hq14
        ·
          refine w_stN (j := 3) (A1 := [some (.ref 217), some (.ref 56), some (.int (vz i2)), some (.null)]) e38_20 (fun _ => rfl) (by decide) rfl ?_
          refine w_ldN e38_21 (fun _ => rfl) rfl ?_
          refine w_x e38_22 (fun _ => rfl) ?_
          exact w_rv e38_25 rfl ⟨⟨Z_, mm_, by have h9 := tbb_e (Or.inl hl15) hb1; rw [h9]; exact ⟨hZe, hB⟩, hk_, hM⟩, rfl⟩
        ·
          refine w_stA (j := 3) (A1 := [some (.ref 217), some (.ref 56), some (.int (vz i2)), some (.ref (57 + 4 * b16))]) e38_20 (fun _ => rfl) (by decide) rfl ?_
          refine w_ldA e38_21 (fun _ => rfl) rfl ?_
          refine w_x e38_22 (fun _ => rfl) ?_
          refine w_ldA e38_26 (fun _ => rfl) rfl ?_
          refine w_get e38_27 e10 rfl ?_
          refine w_ldA e38_30 (fun _ => rfl) rfl ?_
          refine w_get e38_31 e10 rfl ?_
          refine w_ldA e38_34 (fun _ => rfl) rfl ?_
          have e18 := tk_mem hM
          have e22 := tk_row hM (ty_ri b16 (by omega))
          refine w_qst e38_35 e18 e22 rfl (by omega) (by omega) (by decide) (fun v23 b24 h25 => ?_)
          obtain ⟨mm26, hd27, hM28⟩ : ∃ z, z = va_up mm_ (Z_ 217 0).toNat (some (57 + 4 * b16)) ∧ tk Z_ al ai az z sk v0 v23 := ⟨_, rfl, tk_M hM b24 h25⟩
          refine w_ldA e38_36 (fun _ => rfl) rfl ?_
          refine w_x e38_37 (fun _ => rfl) ?_
          have e29 := tk_tri hM28
          refine w_get e38_38 e29 rfl ?_
          refine w_kI e38_41 ?_
          refine w_iadd e38_42 ?_
          refine w_put e38_43 e29 (Nat.le_of_ble_eq_true rfl) rfl (fun v32 b30 h31 => ?_)
          obtain ⟨Z33, hd34, hM35⟩ : ∃ z, z = u2 Z_ 217 0 ((Z_ 217 0) + 1) ∧ tk z al ai az mm26 sk v0 v32 := ⟨_, rfl, tk_Zt hM28 (by omega) b30 h31⟩
          have hz36 := u2_eq hd34
          have hk37 := kn_u hk_ hd34 (fun h9 => absurd h9 (by decide))
          refine w_x e38_46 (fun _ => rfl) ?_
          exact w_sub (A1 := [some (.ref 217), some (.ref 56), some (.int (vz i2)), none]) (And.intro rfl (And.intro rfl (And.intro rfl trivial))) ((ih) v32 Z33 mm26 hM35 hk37 (tbb_s hB hb1 hZe hl15 hb17 (by omega) hd27 hd34) (by omega))
set_option maxRecDepth 100000 in
set_option maxHeartbeats 4000000 in
theorem k38 {Z : Nat → Nat → Int} {al : Nat → Nat → Int64} {ai : Nat → Nat → Int} {az : Nat → Nat → Int32} {mm : Nat → Option Nat} {sk : Nat} {v0 vh : vm_H} (hM : tk Z al ai az mm sk v0 vh) (hk : kn Z) {i2 : Int} (hi_2 : 0 ≤ i2 ∧ i2 ≤ 40) {fr : Nat → Bool} {nv : Nat} {R : Nat → Po} {c : Nat} (hR : rwK fr nv Z al R c) (hc : c ≤ 40) (hn8 : nv ≤ 8) (hic : i2 = (c : Int)) : vm_Rp 4 99 38 [.ref 217, .ref 56, .int (vz i2)] vh (fun r v1 => (∃ (Z1 : Nat → Nat → Int) (mm1 : Nat → Option Nat), (Z1 = u2 Z 217 0 ((bsP fr nv R c 8 []).length : Int) ∧ mbK Z1 mm1 (bsP fr nv R c 8 []) c) ∧ kn Z1 ∧ tk Z1 al ai az mm1 sk v0 v1) ∧ r = none) := by
  refine w_in (m := 1) ?_
  show vm_Wp _ _ _ 0 [some (.ref 217), some (.ref 56), some (.int (vz i2)), none] [] _ _
  refine w_ldA e38_0 (fun _ => rfl) rfl ?_
  refine w_kI e38_1 ?_
  have e1 := tk_tri hM
  refine w_put e38_2 e1 (Nat.le_of_ble_eq_true rfl) rfl (fun v4 b2 h3 => ?_)
  obtain ⟨Z5, hd6, hM7⟩ : ∃ z, z = u2 Z 217 0 0 ∧ tk z al ai az mm sk v0 v4 := ⟨_, rfl, tk_Zt hM (by omega) b2 h3⟩
  have hz8 := u2_eq hd6
  have hk9 := kn_u hk hd6 (fun h9 => absurd h9 (by decide))
  exact w_sub (A1 := [some (.ref 217), some (.ref 56), some (.int (vz i2)), none]) (And.intro rfl (And.intro rfl (And.intro rfl trivial))) (((k38_L (Z := Z) (al := al) (ai := ai) (az := az) (mm := mm) (sk := sk) (v0 := v0) (i2 := i2) (fr := fr) (nv := nv) (R := R) (c := c) hk hi_2 hR hc hn8 hic _)) v4 Z5 mm hM7 hk9 (tbb_0 hd6) (Nat.lt_succ_self _))
set_option maxRecDepth 100000 in
set_option maxHeartbeats 4000000 in
theorem k41_L {Z : Nat → Nat → Int} {al : Nat → Nat → Int64} {ai : Nat → Nat → Int} {az : Nat → Nat → Int32} {mm : Nat → Option Nat} {sk : Nat} {v0 vh : vm_H} (hM : tk Z al ai az mm sk v0 vh) (hk : kn Z) {a1 : Nat} (ha_1 : ty a1 = 3) {c : Nat} {B : List Nat} (hB : mbK Z mm B c) (hc : c ≤ 40) : ∀ N : Nat, (∀ (x2 : Int), (0 ≤ x2 ∧ x2 ≤ Z 217 0) → (∀ j : Nat, (j : Int) < x2 → 57 + 4 * B.reverse.getD j 0 ≠ a1) → ((9 - x2 : Int).toNat < N) → vm_Wp 0 0 41 2 [some (.ref 217), some (.ref a1), some (.int (vz x2))] [] vh (vq_P 41 (fun r v1 => vh = v1 ∧ ∃ q : Int, ((0 ≤ q ∧ q ≤ 1) ∧ (q = 1 ↔ ∃ j : Nat, (j : Int) < Z 217 0 ∧ 57 + 4 * B.reverse.getD j 0 = a1)) ∧ r = some (.int (vz q))))) := by
  have hB1 := hB.1
  have hB2 := hB.2.1
  intro N
  induction N with
  | zero => exact (by intros; omega)
  | succ N ih =>
    ·
      intro x2 hx2 hi0 hN
      refine w_ldI e41_2 (fun _ => rfl) rfl ?_
      refine w_ldA e41_3 (fun _ => rfl) rfl ?_
      have e1 := tk_tri hM
      refine w_get e41_4 e1 rfl ?_
      refine w_ic e41_7 (by omega) (tk_r hM 217 0) (fun (h2 : Z 217 0 ≤ x2) => ?_) (fun (h2 : x2 < Z 217 0) => ?_)
      ·
        refine w_kI e41_28 ?_
        exact w_rz e41_29 rfl (by omega) ⟨rfl, 0, ⟨by omega, fun h9 => absurd h9 (by decide), fun ⟨j9, h8, h7⟩ => absurd h7 (hi0 j9 (by omega))⟩, rfl⟩
      ·
        refine w_ldA e41_10 (fun _ => rfl) rfl ?_
        refine w_get e41_11 e1 rfl ?_
        refine w_ldI e41_14 (fun _ => rfl) rfl ?_
        have e3 := tk_mem hM
        have hm4 := mb_lt hB (j := (x2).toNat) (by omega)
        have hm5 := mb_q hB (j := (x2).toNat) (by omega)
        refine w_qld e41_15 e3 (by decide) (by omega) (by omega) (by decide) hm5 ?_
        refine w_ldA e41_16 (fun _ => rfl) rfl ?_
        refine w_acn e41_17 (fun h6 => ?_) (fun h6 => ?_)
        ·
          refine w_iinc (A1 := [some (.ref 217), some (.ref a1), some (.int (vz (x2 + 1)))]) e41_22 rfl (by decide) rfl ?_
          refine w_x e41_25 (fun _ => rfl) ?_
          exact w_sub (A1 := [some (.ref 217), some (.ref a1), some (.int (vz (x2 + 1)))]) (And.intro rfl (And.intro rfl (And.intro rfl trivial))) ((ih) (x2 + 1) (by omega) (fun j hj => by by_cases h9 : (j : Int) < x2; exact hi0 j h9; rw [show j = (x2).toNat by omega]; exact h6) (by omega))
        ·
          refine w_kI e41_20 ?_
          exact w_rz e41_21 rfl (by omega) ⟨rfl, 1, ⟨by omega, fun _ => ⟨(x2).toNat, by omega, h6⟩, fun _ => rfl⟩, rfl⟩
set_option maxRecDepth 100000 in
set_option maxHeartbeats 4000000 in
theorem k41 {Z : Nat → Nat → Int} {al : Nat → Nat → Int64} {ai : Nat → Nat → Int} {az : Nat → Nat → Int32} {mm : Nat → Option Nat} {sk : Nat} {v0 vh : vm_H} (hM : tk Z al ai az mm sk v0 vh) (hk : kn Z) {a1 : Nat} (ha_1 : ty a1 = 3) {c : Nat} {B : List Nat} (hB : mbK Z mm B c) (hc : c ≤ 40) : vm_Rp 0 0 41 [.ref 217, .ref a1] vh (fun r v1 => vh = v1 ∧ ∃ q : Int, ((0 ≤ q ∧ q ≤ 1) ∧ (q = 1 ↔ ∃ j : Nat, (j : Int) < Z 217 0 ∧ 57 + 4 * B.reverse.getD j 0 = a1)) ∧ r = some (.int (vz q))) := by
  have hB1 := hB.1
  have hB2 := hB.2.1
  refine w_in (m := 1) ?_
  show vm_Wp _ _ _ 0 [some (.ref 217), some (.ref a1), none] [] _ _
  refine w_kI e41_0 ?_
  refine w_stI (j := 2) (A1 := [some (.ref 217), some (.ref a1), some (.int (vz 0))]) e41_1 (fun _ => rfl) (by decide) rfl ?_
  exact w_sub (A1 := [some (.ref 217), some (.ref a1), some (.int (vz 0))]) (And.intro rfl (And.intro rfl (And.intro rfl trivial))) (((k41_L (Z := Z) (al := al) (ai := ai) (az := az) (mm := mm) (sk := sk) (v0 := v0) (vh := vh) (a1 := a1) (c := c) (B := B) hM hk ha_1 hB hc _)) 0 (by omega) (fun j hj => by omega) (Nat.lt_succ_self _))
set_option maxRecDepth 100000 in
set_option maxHeartbeats 4000000 in
theorem k42_L {Z : Nat → Nat → Int} {al : Nat → Nat → Int64} {ai : Nat → Nat → Int} {az : Nat → Nat → Int32} {mm : Nat → Option Nat} {sk : Nat} {v0 vh : vm_H} (hM : tk Z al ai az mm sk v0 vh) (hk : kn Z) {i1 : Int} (hi_1 : -1 ≤ i1 ∧ i1 < 8) {a2 : Nat} (ha_2 : ty a2 = 1) {c : Nat} {B : List Nat} (hB : mbK Z mm B c) (hc : c ≤ 40) : ∀ N : Nat, (∀ (x3 : Int), (-1 ≤ x3 ∧ x3 ≤ i1) → (∀ j : Nat, x3 < (j : Int) → (j : Int) ≤ i1 → dgk (al (a2 + 1)) (Z (57 + 4 * B.reverse.getD j 0) 0) (Z a2 0).toNat < Z (57 + 4 * B.reverse.getD j 0) 1) → (Z a2 0 ≠ 0 ∧ i1 < Z 217 0) → ((x3 + 1 : Int).toNat < N) → vm_Wp 2 53 42 19 [some (.ref 217), some (.int (vz i1)), some (.ref a2), some (.int (vz x3))] [] vh (vq_P 42 (fun r v1 => vh = v1 ∧ ∃ q : Int, duK Z al B a2 i1 q ∧ r = some (.int (vz q))))) := by
  have hB1 := hB.1
  have hB2 := hB.2.1
  intro N
  induction N with
  | zero => exact (by intros; omega)
  | succ N ih =>
    ·
      intro x3 hx3 hi0 hi1 hN
      refine w_ldI e42_19 (fun _ => rfl) rfl ?_
      refine w_if e42_20 (by omega) (fun (h6 : x3 < 0) => ?_) (fun (h6 : 0 ≤ x3) => ?_)
      ·
        refine w_kI e42_56 ?_
        exact w_ri e42_57 rfl ⟨rfl, -1, Or.inr ⟨by omega, fun j hj h2 => hi0 j (by omega) h2, fun h9 => absurd h9 (by decide)⟩, rfl⟩
      ·
        refine w_ldA e42_23 (fun _ => rfl) rfl ?_
        refine w_ldA e42_24 (fun _ => rfl) rfl ?_
        have e7 := tk_tri hM
        refine w_get e42_25 e7 rfl ?_
        refine w_ldI e42_28 (fun _ => rfl) rfl ?_
        have e8 := tk_mem hM
        have hm9 := mb_lt hB (j := (x3).toNat) (by omega)
        have hm10 := mb_q hB (j := (x3).toNat) (by omega)
        refine w_qld e42_29 e8 (by decide) (by omega) (by omega) (by decide) hm10 ?_
        have e11 := tk_row hM (ty_ri (B.reverse.getD ((x3).toNat) 0) (by omega))
        refine w_get e42_30 e11 rfl ?_
        have e12 := tk_poly hM ha_2
        have hk13 := hk a2 ha_2
        refine w_cv e42_33 (by decide) rfl e12 rfl (Nat.le_of_ble_eq_true rfl) (Nat.le_of_ble_eq_true rfl) (Nat.le_of_ble_eq_true rfl) (by decide) (by decide) (k22 hM hk ha_2 (tk_r hM (57 + 4 * B.reverse.getD ((x3).toNat) 0) 0)) (fun o14 v15 hq16 => ?_)
        obtain ⟨rfl, rfl⟩ := hq16
        have hp17 := dgk_bd (al (a2 + 1)) (Z (57 + 4 * B.reverse.getD ((x3).toNat) 0) 0) (Z a2 0).toNat
        refine w_ldA e42_36 (fun _ => rfl) rfl ?_
        refine w_get e42_37 e7 rfl ?_
        refine w_ldI e42_40 (fun _ => rfl) rfl ?_
        have hm18 := mb_lt hB (j := (x3).toNat) (by omega)
        have hm19 := mb_q hB (j := (x3).toNat) (by omega)
        refine w_qld e42_41 e8 (by decide) (by omega) (by omega) (by decide) hm19 ?_
        refine w_get e42_42 e11 rfl ?_
        refine w_ic e42_45 (by omega) (tk_r hM (57 + 4 * B.reverse.getD ((x3).toNat) 0) 1) (fun (h20 : dgk (al (a2 + 1)) (Z (57 + 4 * B.reverse.getD ((x3).toNat) 0) 0) (Z a2 0).toNat < Z (57 + 4 * B.reverse.getD ((x3).toNat) 0) 1) => ?_) (fun (h20 : Z (57 + 4 * B.reverse.getD ((x3).toNat) 0) 1 ≤ dgk (al (a2 + 1)) (Z (57 + 4 * B.reverse.getD ((x3).toNat) 0) 0) (Z a2 0).toNat) => ?_)
        ·
          refine w_iinc (A1 := [some (.ref 217), some (.int (vz i1)), some (.ref a2), some (.int (vz (x3 + (-1))))]) e42_50 rfl (by decide) rfl ?_
          refine w_x e42_53 (fun _ => rfl) ?_
          exact w_sub (A1 := [some (.ref 217), some (.int (vz i1)), some (.ref a2), some (.int (vz (x3 + (-1))))]) (And.intro rfl (And.intro rfl (And.intro rfl (And.intro rfl trivial)))) ((ih) (x3 + (-1)) (by omega) (fun j hj h2 => by by_cases h9 : x3 < (j : Int); exact hi0 j h9 h2; rw [show j = (x3).toNat by omega]; exact h20) hi1 (by omega))
        ·
          refine w_ldI e42_48 (fun _ => rfl) rfl ?_
          exact w_ri e42_49 rfl ⟨rfl, x3, Or.inr ⟨by omega, hi0, fun _ => h20⟩, rfl⟩
set_option maxRecDepth 100000 in
set_option maxHeartbeats 4000000 in
theorem k42 {Z : Nat → Nat → Int} {al : Nat → Nat → Int64} {ai : Nat → Nat → Int} {az : Nat → Nat → Int32} {mm : Nat → Option Nat} {sk : Nat} {v0 vh : vm_H} (hM : tk Z al ai az mm sk v0 vh) (hk : kn Z) {i1 : Int} (hi_1 : -1 ≤ i1 ∧ i1 < 8) {a2 : Nat} (ha_2 : ty a2 = 1) {c : Nat} {B : List Nat} (hB : mbK Z mm B c) (hc : c ≤ 40) : vm_Rp 2 53 42 [.ref 217, .int (vz i1), .ref a2] vh (fun r v1 => vh = v1 ∧ ∃ q : Int, duK Z al B a2 i1 q ∧ r = some (.int (vz q))) := by
  have hB1 := hB.1
  have hB2 := hB.2.1
  refine w_in (m := 1) ?_
  show vm_Wp _ _ _ 0 [some (.ref 217), some (.int (vz i1)), some (.ref a2), none] [] _ _
  refine w_ldA e42_0 (fun _ => rfl) rfl ?_
  have e1 := tk_poly hM ha_2
  have hk2 := hk a2 ha_2
  refine w_get e42_1 e1 rfl ?_
  refine w_if e42_4 (tk_r hM a2 0) (fun (h3 : Z a2 0 = 0) => ?_) (fun (h3 : Z a2 0 ≠ 0) => ?_)
  ·
    refine w_kI e42_15 ?_
    exact w_ri e42_16 rfl ⟨rfl, -1, Or.inl ⟨by omega, rfl⟩, rfl⟩
  ·
    refine w_ldI e42_7 (fun _ => rfl) rfl ?_
    refine w_ldA e42_8 (fun _ => rfl) rfl ?_
    have e4 := tk_tri hM
    refine w_get e42_9 e4 rfl ?_
    refine w_ic e42_12 (by omega) (tk_r hM 217 0) (fun (h5 : i1 < Z 217 0) => ?_) (fun (h5 : Z 217 0 ≤ i1) => ?_)
    ·
      refine w_ldI e42_17 (fun _ => rfl) rfl ?_
      refine w_stI (j := 3) (A1 := [some (.ref 217), some (.int (vz i1)), some (.ref a2), some (.int (vz i1))]) e42_18 (fun _ => rfl) (by decide) rfl ?_
      exact w_sub (A1 := [some (.ref 217), some (.int (vz i1)), some (.ref a2), some (.int (vz i1))]) (And.intro rfl (And.intro rfl (And.intro rfl (And.intro rfl trivial)))) (((k42_L (Z := Z) (al := al) (ai := ai) (az := az) (mm := mm) (sk := sk) (v0 := v0) (vh := vh) (i1 := i1) (a2 := a2) (c := c) (B := B) hM hk hi_1 ha_2 hB hc _)) i1 (by omega) (fun j hj h2 => by omega) (by omega) (Nat.lt_succ_self _))
    ·
      refine w_kI e42_15 ?_
      exact w_ri e42_16 rfl ⟨rfl, -1, Or.inl ⟨by omega, rfl⟩, rfl⟩
