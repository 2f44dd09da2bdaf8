set_option maxRecDepth 100000 in
set_option maxHeartbeats 4000000 in
theorem k12_L {Z : Nat → Nat → Int} {al : Nat → Nat → Int64} {ai : Nat → Nat → Int} {az : Nat → Nat → Int32} {mm : Nat → Option Nat} {sk : Nat} {v0 vh : vm_H} (hM : tk Z al ai az mm sk v0 vh) (hk : kn Z) (hn : 0 ≤ Z 2 0 ∧ Z 2 0 ≤ 8) (hv : ∀ j, 0 ≤ ai 5 j ∧ ai 5 j < 8) {a1 : Nat} (ha_1 : ty a1 = 1) : ∀ N : Nat, (∀ (x2 : Int), (-1 ≤ x2 ∧ x2 < Z 2 0) → (mpk (az 3) (ai 5) (fun p => dgk (al (a1 + 1)) p (Z a1 0).toNat) (Z 2 0).toNat = mpk (az 3) (ai 5) (fun p => dgk (al (a1 + 1)) p (Z a1 0).toNat) (x2 + 1).toNat) → ((x2 + 1 : Int).toNat < N) → vm_Wp 2 53 12 7 [some (.ref 2), some (.ref a1), some (.int (vz x2))] [] vh (vq_P 12 (fun r v1 => vh = v1 ∧ r = some (.int (vz (mpk (az 3) (ai 5) (fun p => dgk (al (a1 + 1)) p (Z a1 0).toNat) (Z 2 0).toNat)))))) := by
  intro N
  induction N with
  | zero => exact (by intros; omega)
  | succ N ih =>
    ·
      intro x2 hx2 hi0 hN
      refine w_ldI e12_7 (fun _ => rfl) rfl ?_
      refine w_if e12_8 (by omega) (fun (h2 : x2 < 0) => ?_) (fun (h2 : 0 ≤ x2) => ?_)
      ·
        refine w_kI e12_41 ?_
        exact w_ri e12_42 rfl ⟨rfl, by rw [hi0, show (x2 + 1).toNat = 0 by omega]; rfl⟩
      ·
        have hx2b : 0 ≤ x2 := by omega
        refine w_ldA e12_11 (fun _ => rfl) rfl ?_
        have e3 := tk_pla hM
        refine w_get e12_12 e3 rfl ?_
        refine w_ldA e12_15 (fun _ => rfl) rfl ?_
        refine w_get e12_16 e3 rfl ?_
        refine w_ldI e12_19 (fun _ => rfl) rfl ?_
        have e4 := tk_vars hM
        refine w_ald e12_20 e4 (by omega) (by omega) (by decide) ?_
        show vm_Wp _ _ _ 21 _ [.int (vz (ai 5 (x2).toNat)), .ref 3] _ _
        have hv5 := hv (x2).toNat
        have e6 := tk_free hM
        refine w_zldO e12_21 e6 (by omega) (by omega) (by decide) (fun q7 h8 h9 => ?_)
        refine w_if e12_22 h8 (fun (h10 : q7 ≠ 0) => ?_) (fun (h10 : q7 = 0) => ?_)
        ·
          refine w_iinc (A1 := [some (.ref 2), some (.ref a1), some (.int (vz (x2 + (-1))))]) e12_35 rfl (by decide) rfl ?_
          refine w_x e12_38 (fun _ => rfl) ?_
          exact w_sub (A1 := [some (.ref 2), some (.ref a1), some (.int (vz (x2 + (-1))))]) (And.intro rfl (And.intro rfl (And.intro rfl trivial))) ((ih) (x2 + (-1)) (by omega) (hi0.trans (mpk_miss (q := q7) hx2b (by omega) h9 h8 (by omega))) (by omega))
        ·
          refine w_ldA e12_25 (fun _ => rfl) rfl ?_
          refine w_ldI e12_26 (fun _ => rfl) rfl ?_
          have e11 := tk_poly hM ha_1
          have hk12 := hk a1 ha_1
          refine w_cv e12_27 (by decide) rfl e11 rfl (Nat.le_of_ble_eq_true rfl) (Nat.le_of_ble_eq_true rfl) (Nat.le_of_ble_eq_true rfl) (by decide) (by decide) (k22 hM hk ha_1 (by omega)) (fun o13 v14 hq15 => ?_)
          obtain ⟨rfl, rfl⟩ := hq15
          have hp16 := dgk_bd (al (a1 + 1)) x2 (Z a1 0).toNat
          refine w_if e12_30 (by omega) (fun (h17 : dgk (al (a1 + 1)) x2 (Z a1 0).toNat ≤ 0) => ?_) (fun (h17 : 0 < dgk (al (a1 + 1)) x2 (Z a1 0).toNat) => ?_)
          ·
            refine w_iinc (A1 := [some (.ref 2), some (.ref a1), some (.int (vz (x2 + (-1))))]) e12_35 rfl (by decide) rfl ?_
            refine w_x e12_38 (fun _ => rfl) ?_
            exact w_sub (A1 := [some (.ref 2), some (.ref a1), some (.int (vz (x2 + (-1))))]) (And.intro rfl (And.intro rfl (And.intro rfl trivial))) ((ih) (x2 + (-1)) (by omega) (hi0.trans (mpk_miss (q := q7) hx2b (by omega) h9 h8 (by omega))) (by omega))
          ·
            refine w_ldI e12_33 (fun _ => rfl) rfl ?_
            exact w_ri e12_34 rfl ⟨rfl, by rw [hi0, mpk_hit (q := q7) hx2b h9 (by omega) (by omega)]⟩
set_option maxRecDepth 100000 in
set_option maxHeartbeats 4000000 in
theorem k12 {Z : Nat → Nat → Int} {al : Nat → Nat → Int64} {ai : Nat → Nat → Int} {az : Nat → Nat → Int32} {mm : Nat → Option Nat} {sk : Nat} {v0 vh : vm_H} (hM : tk Z al ai az mm sk v0 vh) (hk : kn Z) (hn : 0 ≤ Z 2 0 ∧ Z 2 0 ≤ 8) (hv : ∀ j, 0 ≤ ai 5 j ∧ ai 5 j < 8) {a1 : Nat} (ha_1 : ty a1 = 1) : vm_Rp 2 53 12 [.ref 2, .ref a1] vh (fun r v1 => vh = v1 ∧ r = some (.int (vz (mpk (az 3) (ai 5) (fun p => dgk (al (a1 + 1)) p (Z a1 0).toNat) (Z 2 0).toNat)))) := by
  refine w_in (m := 1) ?_
  show vm_Wp _ _ _ 0 [some (.ref 2), some (.ref a1), none] [] _ _
  refine w_ldA e12_0 (fun _ => rfl) rfl ?_
  have e1 := tk_pla hM
  refine w_get e12_1 e1 rfl ?_
  refine w_kI e12_4 ?_
  refine w_isub e12_5 ?_
  refine w_stI (j := 2) (A1 := [some (.ref 2), some (.ref a1), some (.int (vz ((Z 2 0) - 1)))]) e12_6 (fun _ => rfl) (by decide) rfl ?_
  exact w_sub (A1 := [some (.ref 2), some (.ref a1), some (.int (vz ((Z 2 0) - 1)))]) (And.intro rfl (And.intro rfl (And.intro rfl trivial))) (((k12_L (Z := Z) (al := al) (ai := ai) (az := az) (mm := mm) (sk := sk) (v0 := v0) (vh := vh) (a1 := a1) hM hk hn hv ha_1 _)) ((Z 2 0) - 1) (by omega) (by rw [show Z 2 0 - 1 + 1 = Z 2 0 by omega]) (Nat.lt_succ_self _))
set_option maxRecDepth 100000 in
set_option maxHeartbeats 4000000 in
theorem k19 {Z : Nat → Nat → Int} {al : Nat → Nat → Int64} {ai : Nat → Nat → Int} {az : Nat → Nat → Int32} {mm : Nat → Option Nat} {sk : Nat} {v0 vh : vm_H} (hM : tk Z al ai az mm sk v0 vh) (hk : kn Z) {a0 : Nat} (ha_0 : ty a0 = 1) {a1 : Nat} (ha_1 : ty a1 = 1) (hne : a0 ≠ a1) : vm_Rp 1 30 19 [.ref a0, .ref a1] vh (fun r v1 => (∃ al1 : Nat → Nat → Int64, cpK al al1 a0 a1 (Z a1 0) ∧ tk (u2 Z a0 0 (Z a1 0)) al1 ai az mm sk v0 v1) ∧ r = none) := by
  have hs9 := ty_sep ha_0 ha_1 hne
  refine w_in (m := 0) ?_
  show vm_Wp _ _ _ 0 [some (.ref a0), some (.ref a1)] [] _ _
  refine w_ldA e19_0 (fun _ => rfl) rfl ?_
  have e1 := tk_poly hM ha_1
  have hk2 := hk a1 ha_1
  refine w_get e19_1 e1 rfl ?_
  refine w_kI e19_4 ?_
  refine w_ldA e19_5 (fun _ => rfl) rfl ?_
  have e3 := tk_poly hM ha_0
  have hk4 := hk a0 ha_0
  refine w_get e19_6 e3 rfl ?_
  refine w_kI e19_9 ?_
  refine w_ldA e19_10 (fun _ => rfl) rfl ?_
  refine w_get e19_11 e1 rfl ?_
  have e5 := tk_l60 hM (ty_p ha_1).1
  have e6 := tk_l60 hM (ty_p ha_0).1
  refine w_acL e19_14 e5 e6 (by omega) (by omega) (by omega) (by omega) (by omega) (by decide) (by decide) (Nat.le_of_ble_eq_true rfl) (by decide) (by decide) (fun v7 b8 h9 => ?_)
  obtain ⟨al10, hd11, hM12⟩ : ∃ z, z = uA al (a0 + 1) (va_cpy (al (a1 + 1)) (al (a0 + 1)) (0 : Int).toNat (0 : Int).toNat (Z a1 0 : Int).toNat) ∧ tk Z z ai az mm sk v0 v7 := ⟨_, rfl, tk_A hM (ty_p ha_0).1 b8 h9⟩
  refine w_ldA e19_17 (fun _ => rfl) rfl ?_
  have e13 := tk_poly hM12 ha_1
  have hk14 := hk a1 ha_1
  refine w_get e19_18 e13 rfl ?_
  refine w_kI e19_21 ?_
  refine w_ldA e19_22 (fun _ => rfl) rfl ?_
  have e15 := tk_poly hM12 ha_0
  have hk16 := hk a0 ha_0
  refine w_get e19_23 e15 rfl ?_
  refine w_kI e19_26 ?_
  refine w_ldA e19_27 (fun _ => rfl) rfl ?_
  refine w_get e19_28 e13 rfl ?_
  have e17 := tk_l60 hM12 (ty_p ha_1).2
  have e18 := tk_l60 hM12 (ty_p ha_0).2
  refine w_acL e19_31 e17 e18 (by omega) (by omega) (by omega) (by omega) (by omega) (by decide) (by decide) (Nat.le_of_ble_eq_true rfl) (by decide) (by decide) (fun v19 b20 h21 => ?_)
  obtain ⟨al22, hd23, hM24⟩ : ∃ z, z = uA al10 (a0 + 2) (va_cpy (al10 (a1 + 2)) (al10 (a0 + 2)) (0 : Int).toNat (0 : Int).toNat (Z a1 0 : Int).toNat) ∧ tk Z z ai az mm sk v0 v19 := ⟨_, rfl, tk_A hM12 (ty_p ha_0).2 b20 h21⟩
  refine w_ldA e19_34 (fun _ => rfl) rfl ?_
  refine w_ldA e19_35 (fun _ => rfl) rfl ?_
  have e25 := tk_poly hM24 ha_1
  have hk26 := hk a1 ha_1
  refine w_get e19_36 e25 rfl ?_
  have e27 := tk_poly hM24 ha_0
  have hk28 := hk a0 ha_0
  refine w_put e19_39 e27 (Nat.le_of_ble_eq_true rfl) rfl (fun v31 b29 h30 => ?_)
  obtain ⟨Z32, hd33, hM34⟩ : ∃ z, z = u2 Z a0 0 (Z a1 0) ∧ tk z al22 ai az mm sk v0 v31 := ⟨_, rfl, tk_Zp hM24 ha_0 (tk_r hM24 a1 0) b29 h30⟩
  have hk35 := kn_u hk hd33 (fun h9 => by omega)
  exact w_rv e19_42 rfl ⟨⟨al22, cpK_i hs9 hne hd11 hd23, by have h9 := hM34; rw [hd33] at h9; exact h9⟩, rfl⟩
set_option maxRecDepth 100000 in
set_option maxHeartbeats 4000000 in
theorem k21_L {Z : Nat → Nat → Int} {al : Nat → Nat → Int64} {ai : Nat → Nat → Int} {az : Nat → Nat → Int32} {mm : Nat → Option Nat} {sk : Nat} {v0 vh : vm_H} (hM : tk Z al ai az mm sk v0 vh) (hk : kn Z) {a0 : Nat} (ha_0 : ty a0 = 1) {a1 : Nat} (ha_1 : ty a1 = 1) : ∀ N : Nat, (∀ (x2 : Int), (0 ≤ x2 ∧ x2 ≤ Z a0 0) → (Z a0 0 = Z a1 0 ∧ ∀ t : Nat, (t : Int) < x2 → al (a0 + 1) t = al (a1 + 1) t ∧ al (a0 + 2) t = al (a1 + 2) t) → ((60 - x2 : Int).toNat < N) → vm_Wp 0 0 21 15 [some (.ref a0), some (.ref a1), some (.int (vz x2))] [] vh (vq_P 21 (fun r v1 => vh = v1 ∧ ∃ q : Int, ((0 ≤ q ∧ q ≤ 1) ∧ (q = 1 ↔ (Z a0 0 = Z a1 0 ∧ ∀ t : Nat, (t : Int) < Z a0 0 → al (a0 + 1) t = al (a1 + 1) t ∧ al (a0 + 2) t = al (a1 + 2) t))) ∧ r = some (.int (vz q))))) := by
  intro N
  induction N with
  | zero => exact (by intros; omega)
  | succ N ih =>
    ·
      intro x2 hx2 hi0 hN
      refine w_ldI e21_15 (fun _ => rfl) rfl ?_
      refine w_ldA e21_16 (fun _ => rfl) rfl ?_
      have e6 := tk_poly hM ha_0
      have hk7 := hk a0 ha_0
      refine w_get e21_17 e6 rfl ?_
      refine w_ic e21_20 (by omega) (tk_r hM a0 0) (fun (h8 : Z a0 0 ≤ x2) => ?_) (fun (h8 : x2 < Z a0 0) => ?_)
      ·
        refine w_kI e21_63 ?_
        exact w_rz e21_64 rfl (by omega) ⟨rfl, 1, ⟨by omega, fun _ => ⟨hi0.1, fun t ht => hi0.2 t (by omega)⟩, fun _ => rfl⟩, rfl⟩
      ·
        refine w_ldA e21_23 (fun _ => rfl) rfl ?_
        refine w_get e21_24 e6 rfl ?_
        refine w_ldI e21_27 (fun _ => rfl) rfl ?_
        have e9 := tk_l60 hM (ty_p ha_0).1
        refine w_lld e21_28 e9 (by omega) (by omega) (by decide) ?_
        refine w_ldA e21_29 (fun _ => rfl) rfl ?_
        have e10 := tk_poly hM ha_1
        have hk11 := hk a1 ha_1
        refine w_get e21_30 e10 rfl ?_
        refine w_ldI e21_33 (fun _ => rfl) rfl ?_
        have e12 := tk_l60 hM (ty_p ha_1).1
        refine w_lld e21_34 e12 (by omega) (by omega) (by decide) ?_
        refine w_lcmp e21_35 (fun q13 (h14 : -1 ≤ q13 ∧ q13 ≤ 1) h15 h16 => ?_)
        refine w_if e21_36 (by omega) (fun (h17 : q13 ≠ 0) => ?_) (fun (h17 : q13 = 0) => ?_)
        ·
          refine w_kI e21_55 ?_
          exact w_rz e21_56 rfl (by omega) ⟨rfl, 0, ⟨by omega, fun h9 => absurd h9 (by decide), fun h9 => absurd ((h9.2 (x2).toNat (by omega)).1) (fun e9 => h17 (h15.mpr e9))⟩, rfl⟩
        ·
          refine w_ldA e21_39 (fun _ => rfl) rfl ?_
          refine w_get e21_40 e6 rfl ?_
          refine w_ldI e21_43 (fun _ => rfl) rfl ?_
          have e18 := tk_l60 hM (ty_p ha_0).2
          refine w_lld e21_44 e18 (by omega) (by omega) (by decide) ?_
          refine w_ldA e21_45 (fun _ => rfl) rfl ?_
          refine w_get e21_46 e10 rfl ?_
          refine w_ldI e21_49 (fun _ => rfl) rfl ?_
          have e19 := tk_l60 hM (ty_p ha_1).2
          refine w_lld e21_50 e19 (by omega) (by omega) (by decide) ?_
          refine w_lcmp e21_51 (fun q20 (h21 : -1 ≤ q20 ∧ q20 ≤ 1) h22 h23 => ?_)
          refine w_if e21_52 (by omega) (fun (h24 : q20 = 0) => ?_) (fun (h24 : q20 ≠ 0) => ?_)
          ·
            refine w_iinc (A1 := [some (.ref a0), some (.ref a1), some (.int (vz (x2 + 1)))]) e21_57 rfl (by decide) rfl ?_
            refine w_x e21_60 (fun _ => rfl) ?_
            exact w_sub (A1 := [some (.ref a0), some (.ref a1), some (.int (vz (x2 + 1)))]) (And.intro rfl (And.intro rfl (And.intro rfl trivial))) ((ih) (x2 + 1) (by omega) ⟨hi0.1, fun t ht => by by_cases h9 : (t : Int) < x2; exact hi0.2 t h9; rw [show t = (x2).toNat by omega]; exact ⟨h15.mp h17, h22.mp h24⟩⟩ (by omega))
          ·
            refine w_kI e21_55 ?_
            exact w_rz e21_56 rfl (by omega) ⟨rfl, 0, ⟨by omega, fun h9 => absurd h9 (by decide), fun h9 => absurd ((h9.2 (x2).toNat (by omega)).2) (fun e9 => h24 (h22.mpr e9))⟩, rfl⟩
set_option maxRecDepth 100000 in
set_option maxHeartbeats 4000000 in
theorem k21 {Z : Nat → Nat → Int} {al : Nat → Nat → Int64} {ai : Nat → Nat → Int} {az : Nat → Nat → Int32} {mm : Nat → Option Nat} {sk : Nat} {v0 vh : vm_H} (hM : tk Z al ai az mm sk v0 vh) (hk : kn Z) {a0 : Nat} (ha_0 : ty a0 = 1) {a1 : Nat} (ha_1 : ty a1 = 1) : vm_Rp 0 0 21 [.ref a0, .ref a1] vh (fun r v1 => vh = v1 ∧ ∃ q : Int, ((0 ≤ q ∧ q ≤ 1) ∧ (q = 1 ↔ (Z a0 0 = Z a1 0 ∧ ∀ t : Nat, (t : Int) < Z a0 0 → al (a0 + 1) t = al (a1 + 1) t ∧ al (a0 + 2) t = al (a1 + 2) t))) ∧ r = some (.int (vz q))) := by
  refine w_in (m := 1) ?_
  show vm_Wp _ _ _ 0 [some (.ref a0), some (.ref a1), none] [] _ _
  refine w_ldA e21_0 (fun _ => rfl) rfl ?_
  have e1 := tk_poly hM ha_0
  have hk2 := hk a0 ha_0
  refine w_get e21_1 e1 rfl ?_
  refine w_ldA e21_4 (fun _ => rfl) rfl ?_
  have e3 := tk_poly hM ha_1
  have hk4 := hk a1 ha_1
  refine w_get e21_5 e3 rfl ?_
  refine w_ic e21_8 (tk_r hM a0 0) (tk_r hM a1 0) (fun (h5 : Z a0 0 = Z a1 0) => ?_) (fun (h5 : Z a0 0 ≠ Z a1 0) => ?_)
  ·
    refine w_kI e21_13 ?_
    refine w_stI (j := 2) (A1 := [some (.ref a0), some (.ref a1), some (.int (vz 0))]) e21_14 (fun _ => rfl) (by decide) rfl ?_
    exact w_sub (A1 := [some (.ref a0), some (.ref a1), some (.int (vz 0))]) (And.intro rfl (And.intro rfl (And.intro rfl trivial))) (((k21_L (Z := Z) (al := al) (ai := ai) (az := az) (mm := mm) (sk := sk) (v0 := v0) (vh := vh) (a0 := a0) (a1 := a1) hM hk ha_0 ha_1 _)) 0 (by omega) ⟨by omega, fun t ht => by omega⟩ (Nat.lt_succ_self _))
  ·
    refine w_kI e21_11 ?_
    exact w_rz e21_12 rfl (by omega) ⟨rfl, 0, ⟨by omega, fun h9 => absurd h9 (by decide), fun h9 => by have := h9.1; omega⟩, rfl⟩
