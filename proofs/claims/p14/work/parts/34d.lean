set_option maxRecDepth 100000 in
set_option maxHeartbeats 4000000 in
theorem k15_L {Z : Nat → Nat → Int} {al : Nat → Nat → Int64} {ai : Nat → Nat → Int} {az : Nat → Nat → Int32} {mm : Nat → Option Nat} {sk : Nat} {v0 vh : vm_H} (hM : tk Z al ai az mm sk v0 vh) (hk : kn Z) {l_1 : Int64} (hn : 0 ≤ Z 2 0 ∧ Z 2 0 ≤ 8) (hv : ∀ j, 0 ≤ ai 5 j ∧ ai 5 j < 8) : ∀ N : Nat, (∀ (y3 : Int64) (x5 : Int), (0 ≤ x5 ∧ x5 ≤ Z 2 0) → (y3 = vkF (al 4) (ai 5) l_1 (x5).toNat) → (((9 - x5) * 1000 + 999 : Int).toNat < N) → vm_Wp 1 22 15 5 [some (.ref 2), some (.long l_1), none, some (.long y3), none, some (.int (vz x5)), none, none] [] vh (vq_P 15 (fun r v1 => vh = v1 ∧ r = some (.long (vkF (al 4) (ai 5) l_1 (Z 2 0).toNat))))) ∧ (∀ (y3 : Int64) (x5 : Int) (x6 : Int) (x7 : Int), (0 ≤ x5 ∧ x5 < Z 2 0) → (-2147483648 ≤ x6 ∧ x6 < 2147483648) → (0 ≤ x7 ∧ x7 ≤ x6) → (y3 = pwr (vkF (al 4) (ai 5) l_1 (x5).toNat) (al 4 (ai 5 (x5).toNat).toNat) (x7).toNat) → (x6 = pw l_1 x5) → (((9 - x5) * 1000 + 500 - x7 : Int).toNat < N) → vm_Wp 1 22 15 25 [some (.ref 2), some (.long l_1), none, some (.long y3), none, some (.int (vz x5)), some (.int (vz x6)), some (.int (vz x7))] [] vh (vq_P 15 (fun r v1 => vh = v1 ∧ r = some (.long (vkF (al 4) (ai 5) l_1 (Z 2 0).toNat))))) := by
  intro N
  induction N with
  | zero => exact ⟨by intros; omega, by intros; omega⟩
  | succ N ih =>
    refine ⟨?_, ?_⟩
    ·
      intro y3 x5 hx5 hi0q hN
      refine w_ldI e15_5 (fun _ => rfl) rfl ?_
      refine w_ldA e15_7 (fun _ => rfl) rfl ?_
      have e1 := tk_pla hM
      refine w_get e15_8 e1 rfl ?_
      refine w_ic e15_11 (by omega) (tk_r hM 2 0) (fun (h2 : Z 2 0 ≤ x5) => ?_) (fun (h2 : x5 < Z 2 0) => ?_)
      ·
        refine w_ldL e15_59 (fun _ => rfl) rfl ?_
        exact w_rl e15_60 rfl ⟨rfl, by rw [hi0q, show x5 = Z 2 0 by omega]⟩
      ·
        refine w_ldL e15_14 (fun _ => rfl) rfl ?_
        refine w_ldI e15_15 (fun _ => rfl) rfl ?_
        refine w_cs e15_17 (by decide) (Nat.le_of_ble_eq_true rfl) (Nat.le_of_ble_eq_true rfl) (Nat.le_of_ble_eq_true rfl) (by decide) (by decide) (c73x) (fun o3 v4 hq5 => ?_)
        obtain ⟨rfl, rfl⟩ := hq5
        have hp6 := pw_bd l_1 x5
        refine w_stI (j := 6) (A1 := [some (.ref 2), some (.long l_1), none, some (.long y3), none, some (.int (vz x5)), some (.int (vz (pw l_1 x5))), none]) e15_20 (fun _ => rfl) (by decide) rfl ?_
        refine w_kI e15_22 ?_
        refine w_stI (j := 7) (A1 := [some (.ref 2), some (.long l_1), none, some (.long y3), none, some (.int (vz x5)), some (.int (vz (pw l_1 x5))), some (.int (vz 0))]) e15_23 (fun _ => rfl) (by decide) rfl ?_
        exact w_sub (A1 := [some (.ref 2), some (.long l_1), none, some (.long y3), none, some (.int (vz x5)), some (.int (vz (pw l_1 x5))), some (.int (vz 0))]) (And.intro rfl (And.intro rfl (And.intro rfl (And.intro rfl (And.intro rfl (And.intro rfl trivial)))))) ((ih.2) y3 x5 (pw l_1 x5) 0 (by omega) (by omega) (by omega) hi0q rfl (by omega))
    ·
      intro y3 x5 x6 x7 hx5 hx6 hx7 hi0q hi1 hN
      have hb6 := pw_bd l_1 x5
      refine w_ldI e15_25 (fun _ => rfl) rfl ?_
      refine w_ldI e15_27 (fun _ => rfl) rfl ?_
      refine w_ic e15_29 (by omega) hx6 (fun (h7 : x6 ≤ x7) => ?_) (fun (h7 : x7 < x6) => ?_)
      ·
        refine w_iinc (A1 := [some (.ref 2), some (.long l_1), none, some (.long y3), none, some (.int (vz (x5 + 1))), some (.int (vz x6)), some (.int (vz x7))]) e15_53 rfl (by decide) rfl ?_
        refine w_x e15_56 (fun _ => rfl) ?_
        exact w_sub (A1 := [some (.ref 2), some (.long l_1), none, some (.long y3), none, some (.int (vz (x5 + 1))), none, none]) (And.intro rfl (And.intro rfl (And.intro rfl (And.intro rfl trivial)))) ((ih.1) y3 (x5 + 1) (by omega) (vk_s (k := x7) hx5.1 hi0q (by omega)) (by omega))
      ·
        refine w_ldL e15_32 (fun _ => rfl) rfl ?_
        refine w_ldA e15_33 (fun _ => rfl) rfl ?_
        have e8 := tk_pla hM
        refine w_get e15_34 e8 rfl ?_
        refine w_ldA e15_37 (fun _ => rfl) rfl ?_
        refine w_get e15_38 e8 rfl ?_
        refine w_ldI e15_41 (fun _ => rfl) rfl ?_
        have e9 := tk_vars hM
        refine w_ald e15_43 e9 (by omega) (by omega) (by decide) ?_
        show vm_Wp _ _ _ 44 _ [.int (vz (ai 5 (x5).toNat)), .ref 4, .long y3] _ _
        have hv10 := hv (x5).toNat
        have e11 := tk_pnt hM
        refine w_lld e15_44 e11 (by omega) (by omega) (by decide) ?_
        refine w_x e15_45 (fun _ => rfl) ?_
        refine w_stL (j := 3) (A1 := [some (.ref 2), some (.long l_1), none, some (.long ((y3 * (((al 4) (ai 5 (x5).toNat).toNat))))), none, some (.int (vz x5)), some (.int (vz x6)), some (.int (vz x7))]) e15_46 (fun _ => rfl) (by decide) rfl ?_
        refine w_iinc (A1 := [some (.ref 2), some (.long l_1), none, some (.long ((y3 * (((al 4) (ai 5 (x5).toNat).toNat))))), none, some (.int (vz x5)), some (.int (vz x6)), some (.int (vz (x7 + 1)))]) e15_47 rfl (by decide) rfl ?_
        refine w_x e15_50 (fun _ => rfl) ?_
        exact w_sub (A1 := [some (.ref 2), some (.long l_1), none, some (.long ((y3 * (((al 4) (ai 5 (x5).toNat).toNat))))), none, some (.int (vz x5)), some (.int (vz x6)), some (.int (vz (x7 + 1)))]) (And.intro rfl (And.intro rfl (And.intro rfl (And.intro rfl (And.intro rfl (And.intro rfl trivial)))))) ((ih.2) ((y3 * (((al 4) (ai 5 (x5).toNat).toNat)))) x5 x6 (x7 + 1) (by omega) hx6 (by omega) (pwr_s hx7.1 hi0q) hi1 (by omega))
set_option maxRecDepth 100000 in
set_option maxHeartbeats 4000000 in
theorem k15 {Z : Nat → Nat → Int} {al : Nat → Nat → Int64} {ai : Nat → Nat → Int} {az : Nat → Nat → Int32} {mm : Nat → Option Nat} {sk : Nat} {v0 vh : vm_H} (hM : tk Z al ai az mm sk v0 vh) (hk : kn Z) {l_1 : Int64} (hn : 0 ≤ Z 2 0 ∧ Z 2 0 ≤ 8) (hv : ∀ j, 0 ≤ ai 5 j ∧ ai 5 j < 8) : vm_Rp 1 22 15 [.ref 2, .long l_1] vh (fun r v1 => vh = v1 ∧ r = some (.long (vkF (al 4) (ai 5) l_1 (Z 2 0).toNat))) := by
  refine w_in (m := 5) ?_
  show vm_Wp _ _ _ 0 [some (.ref 2), some (.long l_1), none, none, none, none, none, none] [] _ _
  refine w_x e15_0 (fun _ => rfl) ?_
  refine w_stL (j := 3) (A1 := [some (.ref 2), some (.long l_1), none, some (.long ((Int64.ofNat 1))), none, none, none, none]) e15_1 (fun _ => rfl) (by decide) rfl ?_
  refine w_kI e15_2 ?_
  refine w_stI (j := 5) (A1 := [some (.ref 2), some (.long l_1), none, some (.long ((Int64.ofNat 1))), none, some (.int (vz 0)), none, none]) e15_3 (fun _ => rfl) (by decide) rfl ?_
  exact w_sub (A1 := [some (.ref 2), some (.long l_1), none, some (.long ((Int64.ofNat 1))), none, some (.int (vz 0)), none, none]) (And.intro rfl (And.intro rfl (And.intro rfl (And.intro rfl trivial)))) (((k15_L (Z := Z) (al := al) (ai := ai) (az := az) (mm := mm) (sk := sk) (v0 := v0) (vh := vh) (l_1 := l_1) hM hk hn hv _).1) ((Int64.ofNat 1)) 0 (by omega) rfl (Nat.lt_succ_self _))
set_option maxRecDepth 100000 in
set_option maxHeartbeats 4000000 in
theorem k13_L {Z : Nat → Nat → Int} {al : Nat → Nat → Int64} {ai : Nat → Nat → Int} {az : Nat → Nat → Int32} {mm : Nat → Option Nat} {sk : Nat} {v0 vh : vm_H} (hM : tk Z al ai az mm sk v0 vh) (hk : kn Z) {a1 : Nat} (ha_1 : ty a1 = 1) (hn : 0 ≤ Z 2 0 ∧ Z 2 0 ≤ 8) (hv : ∀ j, 0 ≤ ai 5 j ∧ ai 5 j < 8) : ∀ N : Nat, (∀ (y2 : Int64) (x4 : Int), (0 ≤ x4 ∧ x4 ≤ Z a1 0) → (y2 = vlF (al 4) (ai 5) (Z 2 0).toNat (al (a1 + 1)) (al (a1 + 2)) (x4).toNat) → ((60 - x4 : Int).toNat < N) → vm_Wp 2 49 13 5 [some (.ref 2), some (.ref a1), some (.long y2), none, some (.int (vz x4))] [] vh (vq_P 13 (fun r v1 => vh = v1 ∧ r = some (.long (vlF (al 4) (ai 5) (Z 2 0).toNat (al (a1 + 1)) (al (a1 + 2)) (Z a1 0).toNat))))) := by
  have hk1 := hk a1 ha_1
  intro N
  induction N with
  | zero => exact (by intros; omega)
  | succ N ih =>
    ·
      intro y2 x4 hx4 hi0q hN
      refine w_ldI e13_5 (fun _ => rfl) rfl ?_
      refine w_ldA e13_7 (fun _ => rfl) rfl ?_
      have e1 := tk_poly hM ha_1
      have hk2 := hk a1 ha_1
      refine w_get e13_8 e1 rfl ?_
      refine w_ic e13_11 (by omega) (tk_r hM a1 0) (fun (h3 : Z a1 0 ≤ x4) => ?_) (fun (h3 : x4 < Z a1 0) => ?_)
      ·
        refine w_ldL e13_42 (fun _ => rfl) rfl ?_
        exact w_rl e13_43 rfl ⟨rfl, by rw [hi0q, show x4 = Z a1 0 by omega]⟩
      ·
        refine w_ldL e13_14 (fun _ => rfl) rfl ?_
        refine w_ldA e13_15 (fun _ => rfl) rfl ?_
        refine w_get e13_16 e1 rfl ?_
        refine w_ldI e13_19 (fun _ => rfl) rfl ?_
        have e4 := tk_l60 hM (ty_p ha_1).2
        refine w_lld e13_21 e4 (by omega) (by omega) (by decide) ?_
        refine w_ldA e13_22 (fun _ => rfl) rfl ?_
        refine w_ldA e13_23 (fun _ => rfl) rfl ?_
        refine w_get e13_24 e1 rfl ?_
        refine w_ldI e13_27 (fun _ => rfl) rfl ?_
        have e5 := tk_l60 hM (ty_p ha_1).1
        refine w_lld e13_29 e5 (by omega) (by omega) (by decide) ?_
        have e6 := tk_pla hM
        refine w_cv e13_30 (by decide) rfl e6 rfl (Nat.le_of_ble_eq_true rfl) (Nat.le_of_ble_eq_true rfl) (Nat.le_of_ble_eq_true rfl) (by decide) (by decide) (k15 hM hk hn hv) (fun o7 v8 hq9 => ?_)
        obtain ⟨rfl, rfl⟩ := hq9
        refine w_x e13_33 (fun _ => rfl) ?_
        refine w_x e13_34 (fun _ => rfl) ?_
        refine w_stL (j := 2) (A1 := [some (.ref 2), some (.ref a1), some (.long ((y2 + (((((al (a1 + 2)) (x4).toNat)) * ((vkF (al 4) (ai 5) (((al (a1 + 1)) (x4).toNat)) (Z 2 0).toNat))))))), none, some (.int (vz x4))]) e13_35 (fun _ => rfl) (by decide) rfl ?_
        refine w_iinc (A1 := [some (.ref 2), some (.ref a1), some (.long ((y2 + (((((al (a1 + 2)) (x4).toNat)) * ((vkF (al 4) (ai 5) (((al (a1 + 1)) (x4).toNat)) (Z 2 0).toNat))))))), none, some (.int (vz (x4 + 1)))]) e13_36 rfl (by decide) rfl ?_
        refine w_x e13_39 (fun _ => rfl) ?_
        exact w_sub (A1 := [some (.ref 2), some (.ref a1), some (.long ((y2 + (((((al (a1 + 2)) (x4).toNat)) * ((vkF (al 4) (ai 5) (((al (a1 + 1)) (x4).toNat)) (Z 2 0).toNat))))))), none, some (.int (vz (x4 + 1)))]) (And.intro rfl (And.intro rfl (And.intro rfl (And.intro rfl trivial)))) ((ih) ((y2 + (((((al (a1 + 2)) (x4).toNat)) * ((vkF (al 4) (ai 5) (((al (a1 + 1)) (x4).toNat)) (Z 2 0).toNat)))))) (x4 + 1) (by omega) (vl_s hx4.1 hi0q rfl) (by omega))
set_option maxRecDepth 100000 in
set_option maxHeartbeats 4000000 in
theorem k13 {Z : Nat → Nat → Int} {al : Nat → Nat → Int64} {ai : Nat → Nat → Int} {az : Nat → Nat → Int32} {mm : Nat → Option Nat} {sk : Nat} {v0 vh : vm_H} (hM : tk Z al ai az mm sk v0 vh) (hk : kn Z) {a1 : Nat} (ha_1 : ty a1 = 1) (hn : 0 ≤ Z 2 0 ∧ Z 2 0 ≤ 8) (hv : ∀ j, 0 ≤ ai 5 j ∧ ai 5 j < 8) : vm_Rp 2 49 13 [.ref 2, .ref a1] vh (fun r v1 => vh = v1 ∧ r = some (.long (vlF (al 4) (ai 5) (Z 2 0).toNat (al (a1 + 1)) (al (a1 + 2)) (Z a1 0).toNat))) := by
  have hk1 := hk a1 ha_1
  refine w_in (m := 3) ?_
  show vm_Wp _ _ _ 0 [some (.ref 2), some (.ref a1), none, none, none] [] _ _
  refine w_x e13_0 (fun _ => rfl) ?_
  refine w_stL (j := 2) (A1 := [some (.ref 2), some (.ref a1), some (.long ((Int64.ofNat 0))), none, none]) e13_1 (fun _ => rfl) (by decide) rfl ?_
  refine w_kI e13_2 ?_
  refine w_stI (j := 4) (A1 := [some (.ref 2), some (.ref a1), some (.long ((Int64.ofNat 0))), none, some (.int (vz 0))]) e13_3 (fun _ => rfl) (by decide) rfl ?_
  exact w_sub (A1 := [some (.ref 2), some (.ref a1), some (.long ((Int64.ofNat 0))), none, some (.int (vz 0))]) (And.intro rfl (And.intro rfl (And.intro rfl (And.intro rfl trivial)))) (((k13_L (Z := Z) (al := al) (ai := ai) (az := az) (mm := mm) (sk := sk) (v0 := v0) (vh := vh) (a1 := a1) hM hk ha_1 hn hv _)) ((Int64.ofNat 0)) 0 (by omega) rfl (Nat.lt_succ_self _))
set_option maxRecDepth 100000 in
set_option maxHeartbeats 4000000 in
theorem k14_L {Z : Nat → Nat → Int} {al : Nat → Nat → Int64} {ai : Nat → Nat → Int} {az : Nat → Nat → Int32} {mm : Nat → Option Nat} {sk : Nat} {v0 vh : vm_H} (hM : tk Z al ai az mm sk v0 vh) (hk : kn Z) {a1 : Nat} (ha_1 : ty a1 = 1) {i2 : Int} (hi_2 : -2147483648 ≤ i2 ∧ i2 < 2147483648) {i3 : Int} (hi_3 : -2147483648 ≤ i3 ∧ i3 < 2147483648) {i4 : Int} (hi_4 : -2147483648 ≤ i4 ∧ i4 < 2147483648) (hn : 0 ≤ Z 2 0 ∧ Z 2 0 ≤ 8) (hv : ∀ j, 0 ≤ ai 5 j ∧ ai 5 j < 8) : ∀ N : Nat, (∀ (y5 : Int64) (y7 : Int64) (x9 : Int), (0 ≤ x9 ∧ x9 ≤ Z a1 0) → ((60 - x9 : Int).toNat < N) → vm_Wp 2 49 14 16 [some (.ref 2), some (.ref a1), some (.int (vz i2)), some (.int (vz i3)), some (.int (vz i4)), some (.long y5), none, some (.long y7), none, some (.int (vz x9))] [] vh (vq_P 14 (fun r v1 => vh = v1 ∧ ∃ q : Int64, r = some (.long q)))) := by
  have hk1 := hk a1 ha_1
  intro N
  induction N with
  | zero => exact (by intros; omega)
  | succ N ih =>
    ·
      intro y5 y7 x9 hx9 hN
      refine w_ldI e14_16 (fun _ => rfl) rfl ?_
      refine w_ldA e14_18 (fun _ => rfl) rfl ?_
      have e1 := tk_poly hM ha_1
      have hk2 := hk a1 ha_1
      refine w_get e14_19 e1 rfl ?_
      refine w_ic e14_22 (by omega) (tk_r hM a1 0) (fun (h3 : Z a1 0 ≤ x9) => ?_) (fun (h3 : x9 < Z a1 0) => ?_)
      ·
        refine w_ldL e14_73 (fun _ => rfl) rfl ?_
        exact w_rl e14_75 rfl ⟨rfl, _, rfl⟩
      ·
        refine w_ldA e14_25 (fun _ => rfl) rfl ?_
        refine w_get e14_26 e1 rfl ?_
        refine w_ldI e14_29 (fun _ => rfl) rfl ?_
        have e4 := tk_l60 hM (ty_p ha_1).1
        refine w_lld e14_31 e4 (by omega) (by omega) (by decide) ?_
        refine w_ldI e14_32 (fun _ => rfl) rfl ?_
        refine w_cs e14_33 (by decide) (Nat.le_of_ble_eq_true rfl) (Nat.le_of_ble_eq_true rfl) (Nat.le_of_ble_eq_true rfl) (by decide) (by decide) (c73x) (fun o5 v6 hq7 => ?_)
        obtain ⟨rfl, rfl⟩ := hq7
        have hp8 := pw_bd (((al (a1 + 1)) (x9).toNat)) i2
        refine w_ldI e14_36 (fun _ => rfl) rfl ?_
        refine w_ic e14_37 (by omega) hi_3 (fun (h9 : pw (((al (a1 + 1)) (x9).toNat)) i2 ≠ i3) => ?_) (fun (h9 : pw (((al (a1 + 1)) (x9).toNat)) i2 = i3) => ?_)
        ·
          refine w_iinc (A1 := [some (.ref 2), some (.ref a1), some (.int (vz i2)), some (.int (vz i3)), some (.int (vz i4)), some (.long y5), none, some (.long y7), none, some (.int (vz (x9 + 1)))]) e14_67 rfl (by decide) rfl ?_
          refine w_x e14_70 (fun _ => rfl) ?_
          exact w_sub (A1 := [some (.ref 2), some (.ref a1), some (.int (vz i2)), some (.int (vz i3)), some (.int (vz i4)), some (.long y5), none, some (.long y7), none, some (.int (vz (x9 + 1)))]) (And.intro rfl (And.intro rfl (And.intro rfl (And.intro rfl (And.intro rfl (And.intro rfl (And.intro rfl (And.intro rfl trivial)))))))) ((ih) y5 y7 (x9 + 1) (by omega) (by omega))
        ·
          refine w_ldL e14_40 (fun _ => rfl) rfl ?_
          refine w_ldA e14_42 (fun _ => rfl) rfl ?_
          refine w_get e14_43 e1 rfl ?_
          refine w_ldI e14_46 (fun _ => rfl) rfl ?_
          have e10 := tk_l60 hM (ty_p ha_1).2
          refine w_lld e14_48 e10 (by omega) (by omega) (by decide) ?_
          refine w_ldA e14_49 (fun _ => rfl) rfl ?_
          refine w_ldA e14_50 (fun _ => rfl) rfl ?_
          refine w_get e14_51 e1 rfl ?_
          refine w_ldI e14_54 (fun _ => rfl) rfl ?_
          refine w_lld e14_56 e4 (by omega) (by omega) (by decide) ?_
          refine w_ldL e14_57 (fun _ => rfl) rfl ?_
          refine w_x e14_59 (fun _ => rfl) ?_
          have e11 := tk_pla hM
          refine w_cv e14_60 (by decide) rfl e11 rfl (Nat.le_of_ble_eq_true rfl) (Nat.le_of_ble_eq_true rfl) (Nat.le_of_ble_eq_true rfl) (by decide) (by decide) (k15 hM hk hn hv) (fun o12 v13 hq14 => ?_)
          obtain ⟨rfl, rfl⟩ := hq14
          refine w_x e14_63 (fun _ => rfl) ?_
          refine w_x e14_64 (fun _ => rfl) ?_
          refine w_stL (j := 7) (A1 := [some (.ref 2), some (.ref a1), some (.int (vz i2)), some (.int (vz i3)), some (.int (vz i4)), some (.long y5), none, some (.long ((y7 + (((((al (a1 + 2)) (x9).toNat)) * ((vkF (al 4) (ai 5) (((((al (a1 + 1)) (x9).toNat)) - y5)) (Z 2 0).toNat))))))), none, some (.int (vz x9))]) e14_65 (fun _ => rfl) (by decide) rfl ?_
          refine w_iinc (A1 := [some (.ref 2), some (.ref a1), some (.int (vz i2)), some (.int (vz i3)), some (.int (vz i4)), some (.long y5), none, some (.long ((y7 + (((((al (a1 + 2)) (x9).toNat)) * ((vkF (al 4) (ai 5) (((((al (a1 + 1)) (x9).toNat)) - y5)) (Z 2 0).toNat))))))), none, some (.int (vz (x9 + 1)))]) e14_67 rfl (by decide) rfl ?_
          refine w_x e14_70 (fun _ => rfl) ?_
          exact w_sub (A1 := [some (.ref 2), some (.ref a1), some (.int (vz i2)), some (.int (vz i3)), some (.int (vz i4)), some (.long y5), none, some (.long ((y7 + (((((al (a1 + 2)) (x9).toNat)) * ((vkF (al 4) (ai 5) (((((al (a1 + 1)) (x9).toNat)) - y5)) (Z 2 0).toNat))))))), none, some (.int (vz (x9 + 1)))]) (And.intro rfl (And.intro rfl (And.intro rfl (And.intro rfl (And.intro rfl (And.intro rfl (And.intro rfl (And.intro rfl trivial)))))))) ((ih) y5 ((y7 + (((((al (a1 + 2)) (x9).toNat)) * ((vkF (al 4) (ai 5) (((((al (a1 + 1)) (x9).toNat)) - y5)) (Z 2 0).toNat)))))) (x9 + 1) (by omega) (by omega))
set_option maxRecDepth 100000 in
set_option maxHeartbeats 4000000 in
theorem k14 {Z : Nat → Nat → Int} {al : Nat → Nat → Int64} {ai : Nat → Nat → Int} {az : Nat → Nat → Int32} {mm : Nat → Option Nat} {sk : Nat} {v0 vh : vm_H} (hM : tk Z al ai az mm sk v0 vh) (hk : kn Z) {a1 : Nat} (ha_1 : ty a1 = 1) {i2 : Int} (hi_2 : -2147483648 ≤ i2 ∧ i2 < 2147483648) {i3 : Int} (hi_3 : -2147483648 ≤ i3 ∧ i3 < 2147483648) {i4 : Int} (hi_4 : -2147483648 ≤ i4 ∧ i4 < 2147483648) (hn : 0 ≤ Z 2 0 ∧ Z 2 0 ≤ 8) (hv : ∀ j, 0 ≤ ai 5 j ∧ ai 5 j < 8) : vm_Rp 2 49 14 [.ref 2, .ref a1, .int (vz i2), .int (vz i3), .int (vz i4)] vh (fun r v1 => vh = v1 ∧ ∃ q : Int64, r = some (.long q)) := by
  have hk1 := hk a1 ha_1
  refine w_in (m := 5) ?_
  show vm_Wp _ _ _ 0 [some (.ref 2), some (.ref a1), some (.int (vz i2)), some (.int (vz i3)), some (.int (vz i4)), none, none, none, none, none] [] _ _
  refine w_ldI e14_0 (fun _ => rfl) rfl ?_
  refine w_x e14_2 (fun _ => rfl) ?_
  refine w_kB e14_3 rfl ?_
  refine w_ldI e14_5 (fun _ => rfl) rfl ?_
  refine w_imul e14_6 ?_
  refine w_x e14_7 (fun _ => rfl) ?_
  refine w_stL (j := 5) (A1 := [some (.ref 2), some (.ref a1), some (.int (vz i2)), some (.int (vz i3)), some (.int (vz i4)), some (.long (((vz (i4)).toInt64 <<< ((vz (8 * i2)).toInt64 &&& 63)))), none, none, none, none]) e14_8 (fun _ => rfl) (by decide) rfl ?_
  refine w_x e14_10 (fun _ => rfl) ?_
  refine w_stL (j := 7) (A1 := [some (.ref 2), some (.ref a1), some (.int (vz i2)), some (.int (vz i3)), some (.int (vz i4)), some (.long (((vz (i4)).toInt64 <<< ((vz (8 * i2)).toInt64 &&& 63)))), none, some (.long ((Int64.ofNat 0))), none, none]) e14_11 (fun _ => rfl) (by decide) rfl ?_
  refine w_kI e14_13 ?_
  refine w_stI (j := 9) (A1 := [some (.ref 2), some (.ref a1), some (.int (vz i2)), some (.int (vz i3)), some (.int (vz i4)), some (.long (((vz (i4)).toInt64 <<< ((vz (8 * i2)).toInt64 &&& 63)))), none, some (.long ((Int64.ofNat 0))), none, some (.int (vz 0))]) e14_14 (fun _ => rfl) (by decide) rfl ?_
  exact w_sub (A1 := [some (.ref 2), some (.ref a1), some (.int (vz i2)), some (.int (vz i3)), some (.int (vz i4)), some (.long (((vz (i4)).toInt64 <<< ((vz (8 * i2)).toInt64 &&& 63)))), none, some (.long ((Int64.ofNat 0))), none, some (.int (vz 0))]) (And.intro rfl (And.intro rfl (And.intro rfl (And.intro rfl (And.intro rfl (And.intro rfl (And.intro rfl (And.intro rfl trivial)))))))) (((k14_L (Z := Z) (al := al) (ai := ai) (az := az) (mm := mm) (sk := sk) (v0 := v0) (vh := vh) (a1 := a1) (i2 := i2) (i3 := i3) (i4 := i4) hM hk ha_1 hi_2 hi_3 hi_4 hn hv _)) (((vz (i4)).toInt64 <<< ((vz (8 * i2)).toInt64 &&& 63))) ((Int64.ofNat 0)) 0 (by omega) (Nat.lt_succ_self _))
set_option maxRecDepth 100000 in
set_option maxHeartbeats 4000000 in
theorem k18 {Z : Nat → Nat → Int} {al : Nat → Nat → Int64} {ai : Nat → Nat → Int} {az : Nat → Nat → Int32} {mm : Nat → Option Nat} {sk : Nat} {v0 vh : vm_H} (hM : tk Z al ai az mm sk v0 vh) (hk : kn Z) {a0 : Nat} (ha_0 : ty a0 = 1) {i1 : Int} (hi_1 : -2147483648 ≤ i1 ∧ i1 < 2147483648) : vm_Rp 0 0 18 [.ref a0, .int (vz i1)] vh (fun r v1 => vh = v1 ∧ ∃ q : Int, ((0 ≤ q ∧ q ≤ 1) ∧ (q = 1 ↔ (0 ≤ i1 ∧ i1 < Z a0 0))) ∧ r = some (.int (vz q))) := by
  have hk0 := hk a0 ha_0
  refine w_in (m := 0) ?_
  show vm_Wp _ _ _ 0 [some (.ref a0), some (.int (vz i1))] [] _ _
  refine w_ldI e18_0 (fun _ => rfl) rfl ?_
  refine w_if e18_1 hi_1 (fun (h1 : i1 < 0) => ?_) (fun (h1 : 0 ≤ i1) => ?_)
  ·
    refine w_kI e18_16 ?_
    exact w_rz e18_17 rfl (by omega) ⟨rfl, 0, ⟨by omega, by omega⟩, rfl⟩
  ·
    refine w_ldI e18_4 (fun _ => rfl) rfl ?_
    refine w_ldA e18_5 (fun _ => rfl) rfl ?_
    have e2 := tk_poly hM ha_0
    have hk3 := hk a0 ha_0
    refine w_get e18_6 e2 rfl ?_
    refine w_ic e18_9 hi_1 (tk_r hM a0 0) (fun (h4 : Z a0 0 ≤ i1) => ?_) (fun (h4 : i1 < Z a0 0) => ?_)
    ·
      refine w_kI e18_16 ?_
      exact w_rz e18_17 rfl (by omega) ⟨rfl, 0, ⟨by omega, by omega⟩, rfl⟩
    ·
      refine w_kI e18_12 ?_
      refine w_x e18_13 (fun _ => rfl) ?_
      exact w_rz e18_17 rfl (by omega) ⟨rfl, 1, ⟨by omega, by omega⟩, rfl⟩
set_option maxRecDepth 100000 in
set_option maxHeartbeats 4000000 in
theorem k20_L {Z : Nat → Nat → Int} {al : Nat → Nat → Int64} {ai : Nat → Nat → Int} {az : Nat → Nat → Int32} {mm : Nat → Option Nat} {sk : Nat} {v0 : vm_H} (hk : kn Z) {a0 : Nat} (ha_0 : ty a0 = 1) {a1 : Nat} (ha_1 : ty a1 = 3) (hne : a0 ≠ a1 + 1) : ∀ N : Nat, (∀ (vh : vm_H) (Z_ : Nat → Nat → Int) (al_ : Nat → Nat → Int64) (y3 : Int64) (x5 : Int), (tk Z_ al_ ai az mm sk v0 vh) → (kn Z_) → (0 ≤ x5 ∧ x5 ≤ Z (a1 + 1) 0) → ((∀ b, b ≠ a0 → Z_ b = Z b) ∧ ∀ b, b ≠ a0 + 1 → b ≠ a0 + 2 → al_ b = al b) → (0 ≤ Z_ a0 0 ∧ Z_ a0 0 ≤ x5) → ((61 - x5 : Int).toNat < N) → vm_Wp 1 22 20 27 [some (.ref a0), some (.ref a1), some (.ref (a1 + 1)), some (.long y3), none, some (.int (vz x5))] [] vh (vq_P 20 (fun r v1 => (∃ (Z1 : Nat → Nat → Int) (al1 : Nat → Nat → Int64), ((∀ b, b ≠ a0 → Z1 b = Z b) ∧ ∀ b, b ≠ a0 + 1 → b ≠ a0 + 2 → al1 b = al b) ∧ kn Z1 ∧ tk Z1 al1 ai az mm sk v0 v1) ∧ r = none))) := by
  have hs9 := ty_sep ha_0 (ty_r ha_1) hne
  have hn1 : a1 ≠ a0 := ty_ne ha_1 ha_0 (by decide)
  have hk2 := hk (a1 + 1) (ty_r ha_1)
  intro N
  induction N with
  | zero => exact (by intros; omega)
  | succ N ih =>
    ·
      intro vh Z_ al_ y3 x5 hM hk_ hx5 hi0q hi1 hN
      have hz2 : Z_ (a1 + 1) 0 = Z (a1 + 1) 0 := by rw [hi0q.1 _ (Ne.symm hne)]
      have hz3 : Z_ a1 = Z a1 := hi0q.1 _ hn1
      refine w_ldI e20_27 (fun _ => rfl) rfl ?_
      refine w_ldA e20_29 (fun _ => rfl) rfl ?_
      have e11 := tk_poly hM (ty_r ha_1)
      have hk12 := hk_ (a1 + 1) (ty_r ha_1)
      refine w_get e20_30 e11 rfl ?_
      refine w_ic e20_33 (by omega) (tk_r hM (a1 + 1) 0) (fun (h13 : Z_ (a1 + 1) 0 ≤ x5) => ?_) (fun (h13 : x5 < Z_ (a1 + 1) 0) => ?_)
      ·
        exact w_rv e20_107 rfl ⟨⟨Z_, al_, hi0q, hk_, hM⟩, rfl⟩
      ·
        refine w_ldA e20_36 (fun _ => rfl) rfl ?_
        refine w_get e20_37 e11 rfl ?_
        refine w_ldI e20_40 (fun _ => rfl) rfl ?_
        have e14 := tk_l60 hM (ty_p (ty_r ha_1)).1
        refine w_lld e20_42 e14 (by omega) (by omega) (by decide) ?_
        refine w_ldA e20_43 (fun _ => rfl) rfl ?_
        have e15 := tk_row hM ha_1
        refine w_get e20_44 e15 rfl ?_
        refine w_cs e20_47 (by decide) (Nat.le_of_ble_eq_true rfl) (Nat.le_of_ble_eq_true rfl) (Nat.le_of_ble_eq_true rfl) (by decide) (by decide) (c73x) (fun o16 v17 hq18 => ?_)
        obtain ⟨rfl, rfl⟩ := hq18
        have hp19 := pw_bd (((al_ (a1 + 1 + 1)) (x5).toNat)) (Z_ a1 0)
        refine w_ldA e20_50 (fun _ => rfl) rfl ?_
        refine w_get e20_51 e15 rfl ?_
        refine w_ic e20_54 (by omega) (tk_r hM a1 1) (fun (h20 : pw (((al_ (a1 + 1 + 1)) (x5).toNat)) (Z_ a1 0) ≠ Z_ a1 1) => ?_) (fun (h20 : pw (((al_ (a1 + 1 + 1)) (x5).toNat)) (Z_ a1 0) = Z_ a1 1) => ?_)
        ·
          refine w_iinc (A1 := [some (.ref a0), some (.ref a1), some (.ref (a1 + 1)), some (.long y3), none, some (.int (vz (x5 + 1)))]) e20_101 rfl (by decide) rfl ?_
          refine w_x e20_104 (fun _ => rfl) ?_
          exact w_sub (A1 := [some (.ref a0), some (.ref a1), some (.ref (a1 + 1)), some (.long y3), none, some (.int (vz (x5 + 1)))]) (And.intro rfl (And.intro rfl (And.intro rfl (And.intro rfl (And.intro rfl trivial))))) ((ih) vh Z_ al_ y3 (x5 + 1) hM hk_ (by omega) hi0q (by omega) (by omega))
        ·
          refine w_ldA e20_57 (fun _ => rfl) rfl ?_
          have e21 := tk_poly hM ha_0
          have hk22 := hk_ a0 ha_0
          refine w_get e20_58 e21 rfl ?_
          refine w_ldA e20_61 (fun _ => rfl) rfl ?_
          refine w_get e20_62 e21 rfl ?_
          refine w_ldA e20_65 (fun _ => rfl) rfl ?_
          refine w_get e20_66 e11 rfl ?_
          refine w_ldI e20_69 (fun _ => rfl) rfl ?_
          refine w_lld e20_71 e14 (by omega) (by omega) (by decide) ?_
          refine w_ldL e20_72 (fun _ => rfl) rfl ?_
          refine w_x e20_73 (fun _ => rfl) ?_
          have e23 := tk_l60 hM (ty_p ha_0).1
          refine w_lst e20_74 e23 (by omega) (by omega) (by decide) (fun v26 b24 h25 => ?_)
          obtain ⟨al27, hd28, hM29⟩ : ∃ z, z = uA al_ (a0 + 1) (vp_updL (al_ (a0 + 1)) (Z_ a0 0).toNat (((((al_ (a1 + 1 + 1)) (x5).toNat)) - y3))) ∧ tk Z_ z ai az mm sk v0 v26 := ⟨_, rfl, tk_A hM (ty_p ha_0).1 b24 h25⟩
          refine w_ldA e20_75 (fun _ => rfl) rfl ?_
          have e30 := tk_poly hM29 ha_0
          have hk31 := hk_ a0 ha_0
          refine w_get e20_76 e30 rfl ?_
          refine w_ldA e20_79 (fun _ => rfl) rfl ?_
          refine w_get e20_80 e30 rfl ?_
          refine w_ldA e20_83 (fun _ => rfl) rfl ?_
          have e32 := tk_poly hM29 (ty_r ha_1)
          have hk33 := hk_ (a1 + 1) (ty_r ha_1)
          refine w_get e20_84 e32 rfl ?_
          refine w_ldI e20_87 (fun _ => rfl) rfl ?_
          have e34 := tk_l60 hM29 (ty_p (ty_r ha_1)).2
          refine w_lld e20_89 e34 (by omega) (by omega) (by decide) ?_
          have e35 := tk_l60 hM29 (ty_p ha_0).2
          refine w_lst e20_90 e35 (by omega) (by omega) (by decide) (fun v38 b36 h37 => ?_)
          obtain ⟨al39, hd40, hM41⟩ : ∃ z, z = uA al27 (a0 + 2) (vp_updL (al27 (a0 + 2)) (Z_ a0 0).toNat (((al27 (a1 + 1 + 2)) (x5).toNat))) ∧ tk Z_ z ai az mm sk v0 v38 := ⟨_, rfl, tk_A hM29 (ty_p ha_0).2 b36 h37⟩
          refine w_ldA e20_91 (fun _ => rfl) rfl ?_
          refine w_x e20_92 (fun _ => rfl) ?_
          have e42 := tk_poly hM41 ha_0
          have hk43 := hk_ a0 ha_0
          refine w_get e20_93 e42 rfl ?_
          refine w_kI e20_96 ?_
          refine w_iadd e20_97 ?_
          refine w_put e20_98 e42 (Nat.le_of_ble_eq_true rfl) rfl (fun v46 b44 h45 => ?_)
          obtain ⟨Z47, hd48, hM49⟩ : ∃ z, z = u2 Z_ a0 0 ((Z_ a0 0) + 1) ∧ tk z al39 ai az mm sk v0 v46 := ⟨_, rfl, tk_Zp hM41 ha_0 (by omega) b44 h45⟩
          have hk50 := kn_u hk_ hd48 (fun h9 => by omega)
          have hz0 : Z47 a0 0 = Z_ a0 0 + 1 := by rw [hd48, u2_s]
          refine w_iinc (A1 := [some (.ref a0), some (.ref a1), some (.ref (a1 + 1)), some (.long y3), none, some (.int (vz (x5 + 1)))]) e20_101 rfl (by decide) rfl ?_
          refine w_x e20_104 (fun _ => rfl) ?_
          exact w_sub (A1 := [some (.ref a0), some (.ref a1), some (.ref (a1 + 1)), some (.long y3), none, some (.int (vz (x5 + 1)))]) (And.intro rfl (And.intro rfl (And.intro rfl (And.intro rfl (And.intro rfl trivial))))) ((ih) v46 Z47 al39 y3 (x5 + 1) hM49 hk50 (by omega) ⟨fun b b1 => by rw [hd48, u2_af b1]; exact hi0q.1 b b1, fun b b1 b2 => by rw [hd40, uA_o b2, hd28, uA_o b1]; exact hi0q.2 b b1 b2⟩ (by omega) (by omega))
set_option maxRecDepth 100000 in
set_option maxHeartbeats 4000000 in
theorem k20 {Z : Nat → Nat → Int} {al : Nat → Nat → Int64} {ai : Nat → Nat → Int} {az : Nat → Nat → Int32} {mm : Nat → Option Nat} {sk : Nat} {v0 vh : vm_H} (hM : tk Z al ai az mm sk v0 vh) (hk : kn Z) {a0 : Nat} (ha_0 : ty a0 = 1) {a1 : Nat} (ha_1 : ty a1 = 3) (hne : a0 ≠ a1 + 1) : vm_Rp 1 22 20 [.ref a0, .ref a1] vh (fun r v1 => (∃ (Z1 : Nat → Nat → Int) (al1 : Nat → Nat → Int64), ((∀ b, b ≠ a0 → Z1 b = Z b) ∧ ∀ b, b ≠ a0 + 1 → b ≠ a0 + 2 → al1 b = al b) ∧ kn Z1 ∧ tk Z1 al1 ai az mm sk v0 v1) ∧ r = none) := by
  have hs9 := ty_sep ha_0 (ty_r ha_1) hne
  have hn1 : a1 ≠ a0 := ty_ne ha_1 ha_0 (by decide)
  have hk2 := hk (a1 + 1) (ty_r ha_1)
  refine w_in (m := 4) ?_
  show vm_Wp _ _ _ 0 [some (.ref a0), some (.ref a1), none, none, none, none] [] _ _
  refine w_ldA e20_0 (fun _ => rfl) rfl ?_
  have e1 := tk_row hM ha_1
  refine w_get e20_1 e1 rfl ?_
  refine w_stA (j := 2) (A1 := [some (.ref a0), some (.ref a1), some (.ref (a1 + 1)), none, none, none]) e20_4 (fun _ => rfl) (by decide) rfl ?_
  refine w_ldA e20_5 (fun _ => rfl) rfl ?_
  refine w_get e20_6 e1 rfl ?_
  refine w_x e20_9 (fun _ => rfl) ?_
  refine w_kB e20_10 rfl ?_
  refine w_ldA e20_12 (fun _ => rfl) rfl ?_
  refine w_get e20_13 e1 rfl ?_
  refine w_imul e20_16 ?_
  refine w_x e20_17 (fun _ => rfl) ?_
  refine w_stL (j := 3) (A1 := [some (.ref a0), some (.ref a1), some (.ref (a1 + 1)), some (.long (((vz (Z a1 1)).toInt64 <<< ((vz (8 * (Z a1 0))).toInt64 &&& 63)))), none, none]) e20_18 (fun _ => rfl) (by decide) rfl ?_
  refine w_ldA e20_19 (fun _ => rfl) rfl ?_
  refine w_kI e20_20 ?_
  have e2 := tk_poly hM ha_0
  have hk3 := hk a0 ha_0
  refine w_put e20_21 e2 (Nat.le_of_ble_eq_true rfl) rfl (fun v6 b4 h5 => ?_)
  obtain ⟨Z7, hd8, hM9⟩ : ∃ z, z = u2 Z a0 0 0 ∧ tk z al ai az mm sk v0 v6 := ⟨_, rfl, tk_Zp hM ha_0 (by omega) b4 h5⟩
  have hk10 := kn_u hk hd8 (fun h9 => by omega)
  have hz0 : Z7 a0 0 = 0 := by rw [hd8, u2_s]
  have hz1 : Z7 (a1 + 1) = Z (a1 + 1) := by rw [hd8, u2_af (Ne.symm hne)]
  refine w_kI e20_24 ?_
  refine w_stI (j := 5) (A1 := [some (.ref a0), some (.ref a1), some (.ref (a1 + 1)), some (.long (((vz (Z a1 1)).toInt64 <<< ((vz (8 * (Z a1 0))).toInt64 &&& 63)))), none, some (.int (vz 0))]) e20_25 (fun _ => rfl) (by decide) rfl ?_
  exact w_sub (A1 := [some (.ref a0), some (.ref a1), some (.ref (a1 + 1)), some (.long (((vz (Z a1 1)).toInt64 <<< ((vz (8 * (Z a1 0))).toInt64 &&& 63)))), none, some (.int (vz 0))]) (And.intro rfl (And.intro rfl (And.intro rfl (And.intro rfl (And.intro rfl trivial))))) (((k20_L (Z := Z) (al := al) (ai := ai) (az := az) (mm := mm) (sk := sk) (v0 := v0) (a0 := a0) (a1 := a1) hk ha_0 ha_1 hne _)) v6 Z7 al (((vz (Z a1 1)).toInt64 <<< ((vz (8 * (Z a1 0))).toInt64 &&& 63))) 0 hM9 hk10 (by omega) ⟨fun b b1 => by rw [hd8, u2_af b1], fun _ _ _ => rfl⟩ (by omega) (Nat.lt_succ_self _))
set_option maxRecDepth 100000 in
set_option maxHeartbeats 4000000 in
theorem k62 {Z : Nat → Nat → Int} {al : Nat → Nat → Int64} {ai : Nat → Nat → Int} {az : Nat → Nat → Int32} {mm : Nat → Option Nat} {sk : Nat} {v0 vh : vm_H} (hM : tk Z al ai az mm sk v0 vh) (hk : kn Z) {i1 : Int} (hi_1 : -2147483648 ≤ i1 ∧ i1 < 2147483648) {i2 : Int} (hi_2 : -2147483648 ≤ i2 ∧ i2 < 2147483648) {fr : Nat → Bool} {nv : Nat} {R : Nat → Po} {c : Nat} {B : List Nat} (hset : setK fr nv R c B Z al mm) (hp : 0 ≤ Z 1 0 ∧ Z 1 0 ≤ 16) : vm_Rp 2 47 62 [.ref 1, .int (vz i1), .int (vz i2)] vh (fun r v1 => ∃ (Z1 : Nat → Nat → Int) (al1 : Nat → Nat → Int64), loF Z Z1 al al1 ∧ (r = some .null ∨ ∃ a, ty a = 1 ∧ r = some (.ref a)) ∧ kn Z1 ∧ tk Z1 al1 ai az mm sk v0 v1) := by
  refine w_in (m := 0) ?_
  show vm_Wp _ _ _ 0 [some (.ref 1), some (.int (vz i1)), some (.int (vz i2))] [] _ _
  refine w_ldI e62_0 (fun _ => rfl) rfl ?_
  refine w_if e62_1 hi_1 (fun (h1 : i1 ≠ 0) => ?_) (fun (h1 : i1 = 0) => ?_)
  ·
    refine w_ldI e62_19 (fun _ => rfl) rfl ?_
    refine w_kI e62_20 ?_
    refine w_ic e62_21 hi_1 (by omega) (fun (h2 : i1 ≠ 1) => ?_) (fun (h2 : i1 = 1) => ?_)
    ·
      refine w_ldI e62_45 (fun _ => rfl) rfl ?_
      refine w_kI e62_46 ?_
      refine w_ic e62_47 hi_1 (by omega) (fun (h3 : i1 ≠ 2) => ?_) (fun (h3 : i1 = 2) => ?_)
      ·
        refine w_ldI e62_79 (fun _ => rfl) rfl ?_
        refine w_kI e62_80 ?_
        refine w_ic e62_81 hi_1 (by omega) (fun (h4 : i1 ≠ 3) => ?_) (fun (h4 : i1 = 3) => ?_)
        ·
          refine w_ldI e62_93 (fun _ => rfl) rfl ?_
          refine w_kI e62_94 ?_
          refine w_ic e62_95 hi_1 (by omega) (fun (h5 : i1 ≠ 4) => ?_) (fun (h5 : i1 = 4) => ?_)
          ·
            refine w_x e62_107 (fun _ => rfl) ?_
            exact w_rn e62_108 rfl ⟨Z, al, loF_0, Or.inl rfl, hk, hM⟩
          ·
            refine w_ldI e62_98 (fun _ => rfl) rfl ?_
            refine w_if e62_99 hi_2 (fun (h6 : i2 ≠ 0) => ?_) (fun (h6 : i2 = 0) => ?_)
            ·
              refine w_x e62_107 (fun _ => rfl) ?_
              exact w_rn e62_108 rfl ⟨Z, al, loF_0, Or.inl rfl, hk, hM⟩
            ·
              refine w_ldA e62_102 (fun _ => rfl) rfl ?_
              have e7 := tk_main hM
              refine w_get e62_103 e7 rfl ?_
              exact w_ra e62_106 rfl ⟨Z, al, loF_0, Or.inr ⟨_, (rfl : ty 224 = 1), rfl⟩, hk, hM⟩
        ·
          refine w_ldI e62_84 (fun _ => rfl) rfl ?_
          refine w_if e62_85 hi_2 (fun (h8 : i2 ≠ 0) => ?_) (fun (h8 : i2 = 0) => ?_)
          ·
            refine w_ldI e62_93 (fun _ => rfl) rfl ?_
            refine w_kI e62_94 ?_
            refine w_ic e62_95 hi_1 (by omega) (fun (h9 : i1 ≠ 4) => ?_) (fun (h9 : i1 = 4) => ?_)
            ·
              refine w_x e62_107 (fun _ => rfl) ?_
              exact w_rn e62_108 rfl ⟨Z, al, loF_0, Or.inl rfl, hk, hM⟩
            ·
              refine w_ldI e62_98 (fun _ => rfl) rfl ?_
              refine w_if e62_99 hi_2 (fun (h10 : i2 ≠ 0) => ?_) (fun (h10 : i2 = 0) => ?_)
              ·
                refine w_x e62_107 (fun _ => rfl) ?_
                exact w_rn e62_108 rfl ⟨Z, al, loF_0, Or.inl rfl, hk, hM⟩
              ·
                refine w_ldA e62_102 (fun _ => rfl) rfl ?_
                have e11 := tk_main hM
                refine w_get e62_103 e11 rfl ?_
                exact w_ra e62_106 rfl ⟨Z, al, loF_0, Or.inr ⟨_, (rfl : ty 224 = 1), rfl⟩, hk, hM⟩
          ·
            refine w_ldA e62_88 (fun _ => rfl) rfl ?_
            have e12 := tk_main hM
            refine w_get e62_89 e12 rfl ?_
            exact w_ra e62_92 rfl ⟨Z, al, loF_0, Or.inr ⟨_, (rfl : ty 227 = 1), rfl⟩, hk, hM⟩
      ·
        refine w_ldA e62_50 (fun _ => rfl) rfl ?_
        refine w_ldI e62_51 (fun _ => rfl) rfl ?_
        have e13 := tk_main hM
        refine w_cv e62_52 (by decide) rfl e13 rfl (Nat.le_of_ble_eq_true rfl) (Nat.le_of_ble_eq_true rfl) (Nat.le_of_ble_eq_true rfl) (by decide) (by decide) (k60 hM hk hi_2) (fun o14 v15 hq16 => ?_)
        obtain ⟨rfl, q17, h18, rfl⟩ := hq16
        have hb19 := h18
        refine w_if e62_55 (by omega) (fun (h20 : q17 = 0) => ?_) (fun (h20 : q17 ≠ 0) => ?_)
        ·
          refine w_ldI e62_79 (fun _ => rfl) rfl ?_
          refine w_kI e62_80 ?_
          refine w_ic e62_81 hi_1 (by omega) (fun (h21 : i1 ≠ 3) => ?_) (fun (h21 : i1 = 3) => ?_)
          ·
            refine w_ldI e62_93 (fun _ => rfl) rfl ?_
            refine w_kI e62_94 ?_
            refine w_ic e62_95 hi_1 (by omega) (fun (h22 : i1 ≠ 4) => ?_) (fun (h22 : i1 = 4) => ?_)
            ·
              refine w_x e62_107 (fun _ => rfl) ?_
              exact w_rn e62_108 rfl ⟨Z, al, loF_0, Or.inl rfl, hk, hM⟩
            ·
              refine w_ldI e62_98 (fun _ => rfl) rfl ?_
              refine w_if e62_99 hi_2 (fun (h23 : i2 ≠ 0) => ?_) (fun (h23 : i2 = 0) => ?_)
              ·
                refine w_x e62_107 (fun _ => rfl) ?_
                exact w_rn e62_108 rfl ⟨Z, al, loF_0, Or.inl rfl, hk, hM⟩
              ·
                refine w_ldA e62_102 (fun _ => rfl) rfl ?_
                refine w_get e62_103 e13 rfl ?_
                exact w_ra e62_106 rfl ⟨Z, al, loF_0, Or.inr ⟨_, (rfl : ty 224 = 1), rfl⟩, hk, hM⟩
          ·
            refine w_ldI e62_84 (fun _ => rfl) rfl ?_
            refine w_if e62_85 hi_2 (fun (h24 : i2 ≠ 0) => ?_) (fun (h24 : i2 = 0) => ?_)
            ·
              refine w_ldI e62_93 (fun _ => rfl) rfl ?_
              refine w_kI e62_94 ?_
              refine w_ic e62_95 hi_1 (by omega) (fun (h25 : i1 ≠ 4) => ?_) (fun (h25 : i1 = 4) => ?_)
              ·
                refine w_x e62_107 (fun _ => rfl) ?_
                exact w_rn e62_108 rfl ⟨Z, al, loF_0, Or.inl rfl, hk, hM⟩
              ·
                refine w_ldI e62_98 (fun _ => rfl) rfl ?_
                refine w_if e62_99 hi_2 (fun (h26 : i2 ≠ 0) => ?_) (fun (h26 : i2 = 0) => ?_)
                ·
                  refine w_x e62_107 (fun _ => rfl) ?_
                  exact w_rn e62_108 rfl ⟨Z, al, loF_0, Or.inl rfl, hk, hM⟩
                ·
                  refine w_ldA e62_102 (fun _ => rfl) rfl ?_
                  refine w_get e62_103 e13 rfl ?_
                  exact w_ra e62_106 rfl ⟨Z, al, loF_0, Or.inr ⟨_, (rfl : ty 224 = 1), rfl⟩, hk, hM⟩
            ·
              refine w_ldA e62_88 (fun _ => rfl) rfl ?_
              refine w_get e62_89 e13 rfl ?_
              exact w_ra e62_92 rfl ⟨Z, al, loF_0, Or.inr ⟨_, (rfl : ty 227 = 1), rfl⟩, hk, hM⟩
        ·
          obtain ⟨hR, hBq, hc⟩ := hset (by omega)
          have hB1 := hBq.1
          have hB2 := hBq.2.1
          refine w_ldA e62_58 (fun _ => rfl) rfl ?_
          refine w_get e62_59 e13 rfl ?_
          refine w_ldA e62_62 (fun _ => rfl) rfl ?_
          refine w_get e62_63 e13 rfl ?_
          have e27 := tk_tri hM
          refine w_get e62_66 e27 rfl ?_
          refine w_ldI e62_69 (fun _ => rfl) rfl ?_
          have e28 := tk_mem hM
          have hm29 := mb_lt hBq (j := (i2).toNat) (by omega)
          have hm30 := mb_q hBq (j := (i2).toNat) (by omega)
          refine w_qld e62_70 e28 (by decide) (by omega) (by omega) (by decide) hm30 ?_
          have e31 := tk_poly hM (rfl : ty 234 = 1)
          have hk32 := hk 234 (rfl : ty 234 = 1)
          refine w_cv e62_71 (by decide) rfl e31 rfl (Nat.le_of_ble_eq_true rfl) (Nat.le_of_ble_eq_true rfl) (Nat.le_of_ble_eq_true rfl) (by decide) (by decide) (k20 hM hk (rfl : ty 234 = 1) (ty_ri (B.reverse.getD ((i2).toNat) 0) (by omega)) (by omega)) (fun o33 v34 hq35 => ?_)
          obtain ⟨⟨Z36, al37, hf38, hk39, hM40⟩, rfl⟩ := hq35
          refine w_ldA e62_74 (fun _ => rfl) rfl ?_
          have e41 := tk_main hM40
          refine w_get e62_75 e41 rfl ?_
          exact w_ra e62_78 rfl ⟨Z36, al37, ⟨fun b _ b2 => hf38.1 b b2, fun b b1 b2 _ => hf38.2 b b1 b2⟩, Or.inr ⟨_, (rfl : ty 234 = 1), rfl⟩, hk39, hM40⟩
    ·
      refine w_ldA e62_24 (fun _ => rfl) rfl ?_
      refine w_ldI e62_25 (fun _ => rfl) rfl ?_
      have e42 := tk_main hM
      refine w_cv e62_26 (by decide) rfl e42 rfl (Nat.le_of_ble_eq_true rfl) (Nat.le_of_ble_eq_true rfl) (Nat.le_of_ble_eq_true rfl) (by decide) (by decide) (k60 hM hk hi_2) (fun o43 v44 hq45 => ?_)
      obtain ⟨rfl, q46, h47, rfl⟩ := hq45
      have hb48 := h47
      refine w_if e62_29 (by omega) (fun (h49 : q46 = 0) => ?_) (fun (h49 : q46 ≠ 0) => ?_)
      ·
        refine w_ldI e62_45 (fun _ => rfl) rfl ?_
        refine w_kI e62_46 ?_
        refine w_ic e62_47 hi_1 (by omega) (fun (h50 : i1 ≠ 2) => ?_) (fun (h50 : i1 = 2) => ?_)
        ·
          refine w_ldI e62_79 (fun _ => rfl) rfl ?_
          refine w_kI e62_80 ?_
          refine w_ic e62_81 hi_1 (by omega) (fun (h51 : i1 ≠ 3) => ?_) (fun (h51 : i1 = 3) => ?_)
          ·
            refine w_ldI e62_93 (fun _ => rfl) rfl ?_
            refine w_kI e62_94 ?_
            refine w_ic e62_95 hi_1 (by omega) (fun (h52 : i1 ≠ 4) => ?_) (fun (h52 : i1 = 4) => ?_)
            ·
              refine w_x e62_107 (fun _ => rfl) ?_
              exact w_rn e62_108 rfl ⟨Z, al, loF_0, Or.inl rfl, hk, hM⟩
            ·
              refine w_ldI e62_98 (fun _ => rfl) rfl ?_
              refine w_if e62_99 hi_2 (fun (h53 : i2 ≠ 0) => ?_) (fun (h53 : i2 = 0) => ?_)
              ·
                refine w_x e62_107 (fun _ => rfl) ?_
                exact w_rn e62_108 rfl ⟨Z, al, loF_0, Or.inl rfl, hk, hM⟩
              ·
                refine w_ldA e62_102 (fun _ => rfl) rfl ?_
                refine w_get e62_103 e42 rfl ?_
                exact w_ra e62_106 rfl ⟨Z, al, loF_0, Or.inr ⟨_, (rfl : ty 224 = 1), rfl⟩, hk, hM⟩
          ·
            refine w_ldI e62_84 (fun _ => rfl) rfl ?_
            refine w_if e62_85 hi_2 (fun (h54 : i2 ≠ 0) => ?_) (fun (h54 : i2 = 0) => ?_)
            ·
              refine w_ldI e62_93 (fun _ => rfl) rfl ?_
              refine w_kI e62_94 ?_
              refine w_ic e62_95 hi_1 (by omega) (fun (h55 : i1 ≠ 4) => ?_) (fun (h55 : i1 = 4) => ?_)
              ·
                refine w_x e62_107 (fun _ => rfl) ?_
                exact w_rn e62_108 rfl ⟨Z, al, loF_0, Or.inl rfl, hk, hM⟩
              ·
                refine w_ldI e62_98 (fun _ => rfl) rfl ?_
                refine w_if e62_99 hi_2 (fun (h56 : i2 ≠ 0) => ?_) (fun (h56 : i2 = 0) => ?_)
                ·
                  refine w_x e62_107 (fun _ => rfl) ?_
                  exact w_rn e62_108 rfl ⟨Z, al, loF_0, Or.inl rfl, hk, hM⟩
                ·
                  refine w_ldA e62_102 (fun _ => rfl) rfl ?_
                  refine w_get e62_103 e42 rfl ?_
                  exact w_ra e62_106 rfl ⟨Z, al, loF_0, Or.inr ⟨_, (rfl : ty 224 = 1), rfl⟩, hk, hM⟩
            ·
              refine w_ldA e62_88 (fun _ => rfl) rfl ?_
              refine w_get e62_89 e42 rfl ?_
              exact w_ra e62_92 rfl ⟨Z, al, loF_0, Or.inr ⟨_, (rfl : ty 227 = 1), rfl⟩, hk, hM⟩
        ·
          refine w_ldA e62_50 (fun _ => rfl) rfl ?_
          refine w_ldI e62_51 (fun _ => rfl) rfl ?_
          refine w_cv e62_52 (by decide) rfl e42 rfl (Nat.le_of_ble_eq_true rfl) (Nat.le_of_ble_eq_true rfl) (Nat.le_of_ble_eq_true rfl) (by decide) (by decide) (k60 hM hk hi_2) (fun o57 v58 hq59 => ?_)
          obtain ⟨rfl, q60, h61, rfl⟩ := hq59
          have hb62 := h61
          refine w_if e62_55 (by omega) (fun (h63 : q60 = 0) => ?_) (fun (h63 : q60 ≠ 0) => ?_)
          ·
            refine w_ldI e62_79 (fun _ => rfl) rfl ?_
            refine w_kI e62_80 ?_
            refine w_ic e62_81 hi_1 (by omega) (fun (h64 : i1 ≠ 3) => ?_) (fun (h64 : i1 = 3) => ?_)
            ·
              refine w_ldI e62_93 (fun _ => rfl) rfl ?_
              refine w_kI e62_94 ?_
              refine w_ic e62_95 hi_1 (by omega) (fun (h65 : i1 ≠ 4) => ?_) (fun (h65 : i1 = 4) => ?_)
              ·
                refine w_x e62_107 (fun _ => rfl) ?_
                exact w_rn e62_108 rfl ⟨Z, al, loF_0, Or.inl rfl, hk, hM⟩
              ·
                refine w_ldI e62_98 (fun _ => rfl) rfl ?_
                refine w_if e62_99 hi_2 (fun (h66 : i2 ≠ 0) => ?_) (fun (h66 : i2 = 0) => ?_)
                ·
                  refine w_x e62_107 (fun _ => rfl) ?_
                  exact w_rn e62_108 rfl ⟨Z, al, loF_0, Or.inl rfl, hk, hM⟩
                ·
                  refine w_ldA e62_102 (fun _ => rfl) rfl ?_
                  refine w_get e62_103 e42 rfl ?_
                  exact w_ra e62_106 rfl ⟨Z, al, loF_0, Or.inr ⟨_, (rfl : ty 224 = 1), rfl⟩, hk, hM⟩
            ·
              refine w_ldI e62_84 (fun _ => rfl) rfl ?_
              refine w_if e62_85 hi_2 (fun (h67 : i2 ≠ 0) => ?_) (fun (h67 : i2 = 0) => ?_)
              ·
                refine w_ldI e62_93 (fun _ => rfl) rfl ?_
                refine w_kI e62_94 ?_
                refine w_ic e62_95 hi_1 (by omega) (fun (h68 : i1 ≠ 4) => ?_) (fun (h68 : i1 = 4) => ?_)
                ·
                  refine w_x e62_107 (fun _ => rfl) ?_
                  exact w_rn e62_108 rfl ⟨Z, al, loF_0, Or.inl rfl, hk, hM⟩
                ·
                  refine w_ldI e62_98 (fun _ => rfl) rfl ?_
                  refine w_if e62_99 hi_2 (fun (h69 : i2 ≠ 0) => ?_) (fun (h69 : i2 = 0) => ?_)
                  ·
                    refine w_x e62_107 (fun _ => rfl) ?_
                    exact w_rn e62_108 rfl ⟨Z, al, loF_0, Or.inl rfl, hk, hM⟩
                  ·
                    refine w_ldA e62_102 (fun _ => rfl) rfl ?_
                    refine w_get e62_103 e42 rfl ?_
                    exact w_ra e62_106 rfl ⟨Z, al, loF_0, Or.inr ⟨_, (rfl : ty 224 = 1), rfl⟩, hk, hM⟩
              ·
                refine w_ldA e62_88 (fun _ => rfl) rfl ?_
                refine w_get e62_89 e42 rfl ?_
                exact w_ra e62_92 rfl ⟨Z, al, loF_0, Or.inr ⟨_, (rfl : ty 227 = 1), rfl⟩, hk, hM⟩
          ·
            obtain ⟨hR, hBq, hc⟩ := hset (by omega)
            have hB1 := hBq.1
            have hB2 := hBq.2.1
            refine w_ldA e62_58 (fun _ => rfl) rfl ?_
            refine w_get e62_59 e42 rfl ?_
            refine w_ldA e62_62 (fun _ => rfl) rfl ?_
            refine w_get e62_63 e42 rfl ?_
            have e70 := tk_tri hM
            refine w_get e62_66 e70 rfl ?_
            refine w_ldI e62_69 (fun _ => rfl) rfl ?_
            have e71 := tk_mem hM
            have hm72 := mb_lt hBq (j := (i2).toNat) (by omega)
            have hm73 := mb_q hBq (j := (i2).toNat) (by omega)
            refine w_qld e62_70 e71 (by decide) (by omega) (by omega) (by decide) hm73 ?_
            have e74 := tk_poly hM (rfl : ty 234 = 1)
            have hk75 := hk 234 (rfl : ty 234 = 1)
            refine w_cv e62_71 (by decide) rfl e74 rfl (Nat.le_of_ble_eq_true rfl) (Nat.le_of_ble_eq_true rfl) (Nat.le_of_ble_eq_true rfl) (by decide) (by decide) (k20 hM hk (rfl : ty 234 = 1) (ty_ri (B.reverse.getD ((i2).toNat) 0) (by omega)) (by omega)) (fun o76 v77 hq78 => ?_)
            obtain ⟨⟨Z79, al80, hf81, hk82, hM83⟩, rfl⟩ := hq78
            refine w_ldA e62_74 (fun _ => rfl) rfl ?_
            have e84 := tk_main hM83
            refine w_get e62_75 e84 rfl ?_
            exact w_ra e62_78 rfl ⟨Z79, al80, ⟨fun b _ b2 => hf81.1 b b2, fun b b1 b2 _ => hf81.2 b b1 b2⟩, Or.inr ⟨_, (rfl : ty 234 = 1), rfl⟩, hk82, hM83⟩
      ·
        obtain ⟨hR, hBq, hc⟩ := hset (by omega)
        have hB1 := hBq.1
        have hB2 := hBq.2.1
        refine w_ldA e62_32 (fun _ => rfl) rfl ?_
        refine w_get e62_33 e42 rfl ?_
        have e85 := tk_tri hM
        refine w_get e62_36 e85 rfl ?_
        refine w_ldI e62_39 (fun _ => rfl) rfl ?_
        have e86 := tk_mem hM
        have hm87 := mb_lt hBq (j := (i2).toNat) (by omega)
        have hm88 := mb_q hBq (j := (i2).toNat) (by omega)
        refine w_qld e62_40 e86 (by decide) (by omega) (by omega) (by decide) hm88 ?_
        have e89 := tk_row hM (ty_ri (B.reverse.getD ((i2).toNat) 0) (by omega))
        refine w_get e62_41 e89 rfl ?_
        exact w_ra e62_44 rfl ⟨Z, al, loF_0, Or.inr ⟨_, (ty_r (ty_ri (B.reverse.getD ((i2).toNat) 0) (by omega))), rfl⟩, hk, hM⟩
  ·
    refine w_ldA e62_4 (fun _ => rfl) rfl ?_
    refine w_ldI e62_5 (fun _ => rfl) rfl ?_
    have e90 := tk_main hM
    refine w_cv e62_6 (by decide) rfl e90 rfl (Nat.le_of_ble_eq_true rfl) (Nat.le_of_ble_eq_true rfl) (Nat.le_of_ble_eq_true rfl) (by decide) (by decide) (k59 hM hk hi_2) (fun o91 v92 hq93 => ?_)
    obtain ⟨rfl, q94, h95, rfl⟩ := hq93
    have hb96 := h95
    refine w_if e62_9 (by omega) (fun (h97 : q94 = 0) => ?_) (fun (h97 : q94 ≠ 0) => ?_)
    ·
      refine w_ldI e62_19 (fun _ => rfl) rfl ?_
      refine w_kI e62_20 ?_
      refine w_ic e62_21 hi_1 (by omega) (fun (h98 : i1 ≠ 1) => ?_) (fun (h98 : i1 = 1) => ?_)
      ·
        refine w_ldI e62_45 (fun _ => rfl) rfl ?_
        refine w_kI e62_46 ?_
        refine w_ic e62_47 hi_1 (by omega) (fun (h99 : i1 ≠ 2) => ?_) (fun (h99 : i1 = 2) => ?_)
        ·
          refine w_ldI e62_79 (fun _ => rfl) rfl ?_
          refine w_kI e62_80 ?_
          refine w_ic e62_81 hi_1 (by omega) (fun (h100 : i1 ≠ 3) => ?_) (fun (h100 : i1 = 3) => ?_)
          ·
            refine w_ldI e62_93 (fun _ => rfl) rfl ?_
            refine w_kI e62_94 ?_
            refine w_ic e62_95 hi_1 (by omega) (fun (h101 : i1 ≠ 4) => ?_) (fun (h101 : i1 = 4) => ?_)
            ·
              refine w_x e62_107 (fun _ => rfl) ?_
              exact w_rn e62_108 rfl ⟨Z, al, loF_0, Or.inl rfl, hk, hM⟩
            ·
              refine w_ldI e62_98 (fun _ => rfl) rfl ?_
              refine w_if e62_99 hi_2 (fun (h102 : i2 ≠ 0) => ?_) (fun (h102 : i2 = 0) => ?_)
              ·
                refine w_x e62_107 (fun _ => rfl) ?_
                exact w_rn e62_108 rfl ⟨Z, al, loF_0, Or.inl rfl, hk, hM⟩
              ·
                refine w_ldA e62_102 (fun _ => rfl) rfl ?_
                refine w_get e62_103 e90 rfl ?_
                exact w_ra e62_106 rfl ⟨Z, al, loF_0, Or.inr ⟨_, (rfl : ty 224 = 1), rfl⟩, hk, hM⟩
          ·
            refine w_ldI e62_84 (fun _ => rfl) rfl ?_
            refine w_if e62_85 hi_2 (fun (h103 : i2 ≠ 0) => ?_) (fun (h103 : i2 = 0) => ?_)
            ·
              refine w_ldI e62_93 (fun _ => rfl) rfl ?_
              refine w_kI e62_94 ?_
              refine w_ic e62_95 hi_1 (by omega) (fun (h104 : i1 ≠ 4) => ?_) (fun (h104 : i1 = 4) => ?_)
              ·
                refine w_x e62_107 (fun _ => rfl) ?_
                exact w_rn e62_108 rfl ⟨Z, al, loF_0, Or.inl rfl, hk, hM⟩
              ·
                refine w_ldI e62_98 (fun _ => rfl) rfl ?_
                refine w_if e62_99 hi_2 (fun (h105 : i2 ≠ 0) => ?_) (fun (h105 : i2 = 0) => ?_)
                ·
                  refine w_x e62_107 (fun _ => rfl) ?_
                  exact w_rn e62_108 rfl ⟨Z, al, loF_0, Or.inl rfl, hk, hM⟩
                ·
                  refine w_ldA e62_102 (fun _ => rfl) rfl ?_
                  refine w_get e62_103 e90 rfl ?_
                  exact w_ra e62_106 rfl ⟨Z, al, loF_0, Or.inr ⟨_, (rfl : ty 224 = 1), rfl⟩, hk, hM⟩
            ·
              refine w_ldA e62_88 (fun _ => rfl) rfl ?_
              refine w_get e62_89 e90 rfl ?_
              exact w_ra e62_92 rfl ⟨Z, al, loF_0, Or.inr ⟨_, (rfl : ty 227 = 1), rfl⟩, hk, hM⟩
        ·
          refine w_ldA e62_50 (fun _ => rfl) rfl ?_
          refine w_ldI e62_51 (fun _ => rfl) rfl ?_
          refine w_cv e62_52 (by decide) rfl e90 rfl (Nat.le_of_ble_eq_true rfl) (Nat.le_of_ble_eq_true rfl) (Nat.le_of_ble_eq_true rfl) (by decide) (by decide) (k60 hM hk hi_2) (fun o106 v107 hq108 => ?_)
          obtain ⟨rfl, q109, h110, rfl⟩ := hq108
          have hb111 := h110
          refine w_if e62_55 (by omega) (fun (h112 : q109 = 0) => ?_) (fun (h112 : q109 ≠ 0) => ?_)
          ·
            refine w_ldI e62_79 (fun _ => rfl) rfl ?_
            refine w_kI e62_80 ?_
            refine w_ic e62_81 hi_1 (by omega) (fun (h113 : i1 ≠ 3) => ?_) (fun (h113 : i1 = 3) => ?_)
            ·
              refine w_ldI e62_93 (fun _ => rfl) rfl ?_
              refine w_kI e62_94 ?_
              refine w_ic e62_95 hi_1 (by omega) (fun (h114 : i1 ≠ 4) => ?_) (fun (h114 : i1 = 4) => ?_)
              ·
                refine w_x e62_107 (fun _ => rfl) ?_
                exact w_rn e62_108 rfl ⟨Z, al, loF_0, Or.inl rfl, hk, hM⟩
              ·
                refine w_ldI e62_98 (fun _ => rfl) rfl ?_
                refine w_if e62_99 hi_2 (fun (h115 : i2 ≠ 0) => ?_) (fun (h115 : i2 = 0) => ?_)
                ·
                  refine w_x e62_107 (fun _ => rfl) ?_
                  exact w_rn e62_108 rfl ⟨Z, al, loF_0, Or.inl rfl, hk, hM⟩
                ·
                  refine w_ldA e62_102 (fun _ => rfl) rfl ?_
                  refine w_get e62_103 e90 rfl ?_
                  exact w_ra e62_106 rfl ⟨Z, al, loF_0, Or.inr ⟨_, (rfl : ty 224 = 1), rfl⟩, hk, hM⟩
            ·
              refine w_ldI e62_84 (fun _ => rfl) rfl ?_
              refine w_if e62_85 hi_2 (fun (h116 : i2 ≠ 0) => ?_) (fun (h116 : i2 = 0) => ?_)
              ·
                refine w_ldI e62_93 (fun _ => rfl) rfl ?_
                refine w_kI e62_94 ?_
                refine w_ic e62_95 hi_1 (by omega) (fun (h117 : i1 ≠ 4) => ?_) (fun (h117 : i1 = 4) => ?_)
                ·
                  refine w_x e62_107 (fun _ => rfl) ?_
                  exact w_rn e62_108 rfl ⟨Z, al, loF_0, Or.inl rfl, hk, hM⟩
                ·
                  refine w_ldI e62_98 (fun _ => rfl) rfl ?_
                  refine w_if e62_99 hi_2 (fun (h118 : i2 ≠ 0) => ?_) (fun (h118 : i2 = 0) => ?_)
                  ·
                    refine w_x e62_107 (fun _ => rfl) ?_
                    exact w_rn e62_108 rfl ⟨Z, al, loF_0, Or.inl rfl, hk, hM⟩
                  ·
                    refine w_ldA e62_102 (fun _ => rfl) rfl ?_
                    refine w_get e62_103 e90 rfl ?_
                    exact w_ra e62_106 rfl ⟨Z, al, loF_0, Or.inr ⟨_, (rfl : ty 224 = 1), rfl⟩, hk, hM⟩
              ·
                refine w_ldA e62_88 (fun _ => rfl) rfl ?_
                refine w_get e62_89 e90 rfl ?_
                exact w_ra e62_92 rfl ⟨Z, al, loF_0, Or.inr ⟨_, (rfl : ty 227 = 1), rfl⟩, hk, hM⟩
          ·
            obtain ⟨hR, hBq, hc⟩ := hset (by omega)
            have hB1 := hBq.1
            have hB2 := hBq.2.1
            refine w_ldA e62_58 (fun _ => rfl) rfl ?_
            refine w_get e62_59 e90 rfl ?_
            refine w_ldA e62_62 (fun _ => rfl) rfl ?_
            refine w_get e62_63 e90 rfl ?_
            have e119 := tk_tri hM
            refine w_get e62_66 e119 rfl ?_
            refine w_ldI e62_69 (fun _ => rfl) rfl ?_
            have e120 := tk_mem hM
            have hm121 := mb_lt hBq (j := (i2).toNat) (by omega)
            have hm122 := mb_q hBq (j := (i2).toNat) (by omega)
            refine w_qld e62_70 e120 (by decide) (by omega) (by omega) (by decide) hm122 ?_
            have e123 := tk_poly hM (rfl : ty 234 = 1)
            have hk124 := hk 234 (rfl : ty 234 = 1)
            refine w_cv e62_71 (by decide) rfl e123 rfl (Nat.le_of_ble_eq_true rfl) (Nat.le_of_ble_eq_true rfl) (Nat.le_of_ble_eq_true rfl) (by decide) (by decide) (k20 hM hk (rfl : ty 234 = 1) (ty_ri (B.reverse.getD ((i2).toNat) 0) (by omega)) (by omega)) (fun o125 v126 hq127 => ?_)
            obtain ⟨⟨Z128, al129, hf130, hk131, hM132⟩, rfl⟩ := hq127
            refine w_ldA e62_74 (fun _ => rfl) rfl ?_
            have e133 := tk_main hM132
            refine w_get e62_75 e133 rfl ?_
            exact w_ra e62_78 rfl ⟨Z128, al129, ⟨fun b _ b2 => hf130.1 b b2, fun b b1 b2 _ => hf130.2 b b1 b2⟩, Or.inr ⟨_, (rfl : ty 234 = 1), rfl⟩, hk131, hM132⟩
      ·
        refine w_ldA e62_24 (fun _ => rfl) rfl ?_
        refine w_ldI e62_25 (fun _ => rfl) rfl ?_
        refine w_cv e62_26 (by decide) rfl e90 rfl (Nat.le_of_ble_eq_true rfl) (Nat.le_of_ble_eq_true rfl) (Nat.le_of_ble_eq_true rfl) (by decide) (by decide) (k60 hM hk hi_2) (fun o134 v135 hq136 => ?_)
        obtain ⟨rfl, q137, h138, rfl⟩ := hq136
        have hb139 := h138
        refine w_if e62_29 (by omega) (fun (h140 : q137 = 0) => ?_) (fun (h140 : q137 ≠ 0) => ?_)
        ·
          refine w_ldI e62_45 (fun _ => rfl) rfl ?_
          refine w_kI e62_46 ?_
          refine w_ic e62_47 hi_1 (by omega) (fun (h141 : i1 ≠ 2) => ?_) (fun (h141 : i1 = 2) => ?_)
          ·
            refine w_ldI e62_79 (fun _ => rfl) rfl ?_
            refine w_kI e62_80 ?_
            refine w_ic e62_81 hi_1 (by omega) (fun (h142 : i1 ≠ 3) => ?_) (fun (h142 : i1 = 3) => ?_)
            ·
              refine w_ldI e62_93 (fun _ => rfl) rfl ?_
              refine w_kI e62_94 ?_
              refine w_ic e62_95 hi_1 (by omega) (fun (h143 : i1 ≠ 4) => ?_) (fun (h143 : i1 = 4) => ?_)
              ·
                refine w_x e62_107 (fun _ => rfl) ?_
                exact w_rn e62_108 rfl ⟨Z, al, loF_0, Or.inl rfl, hk, hM⟩
              ·
                refine w_ldI e62_98 (fun _ => rfl) rfl ?_
                refine w_if e62_99 hi_2 (fun (h144 : i2 ≠ 0) => ?_) (fun (h144 : i2 = 0) => ?_)
                ·
                  refine w_x e62_107 (fun _ => rfl) ?_
                  exact w_rn e62_108 rfl ⟨Z, al, loF_0, Or.inl rfl, hk, hM⟩
                ·
                  refine w_ldA e62_102 (fun _ => rfl) rfl ?_
                  refine w_get e62_103 e90 rfl ?_
                  exact w_ra e62_106 rfl ⟨Z, al, loF_0, Or.inr ⟨_, (rfl : ty 224 = 1), rfl⟩, hk, hM⟩
            ·
              refine w_ldI e62_84 (fun _ => rfl) rfl ?_
              refine w_if e62_85 hi_2 (fun (h145 : i2 ≠ 0) => ?_) (fun (h145 : i2 = 0) => ?_)
              ·
                refine w_ldI e62_93 (fun _ => rfl) rfl ?_
                refine w_kI e62_94 ?_
                refine w_ic e62_95 hi_1 (by omega) (fun (h146 : i1 ≠ 4) => ?_) (fun (h146 : i1 = 4) => ?_)
                ·
                  refine w_x e62_107 (fun _ => rfl) ?_
                  exact w_rn e62_108 rfl ⟨Z, al, loF_0, Or.inl rfl, hk, hM⟩
                ·
                  refine w_ldI e62_98 (fun _ => rfl) rfl ?_
                  refine w_if e62_99 hi_2 (fun (h147 : i2 ≠ 0) => ?_) (fun (h147 : i2 = 0) => ?_)
                  ·
                    refine w_x e62_107 (fun _ => rfl) ?_
                    exact w_rn e62_108 rfl ⟨Z, al, loF_0, Or.inl rfl, hk, hM⟩
                  ·
                    refine w_ldA e62_102 (fun _ => rfl) rfl ?_
                    refine w_get e62_103 e90 rfl ?_
                    exact w_ra e62_106 rfl ⟨Z, al, loF_0, Or.inr ⟨_, (rfl : ty 224 = 1), rfl⟩, hk, hM⟩
              ·
                refine w_ldA e62_88 (fun _ => rfl) rfl ?_
                refine w_get e62_89 e90 rfl ?_
                exact w_ra e62_92 rfl ⟨Z, al, loF_0, Or.inr ⟨_, (rfl : ty 227 = 1), rfl⟩, hk, hM⟩
          ·
            refine w_ldA e62_50 (fun _ => rfl) rfl ?_
            refine w_ldI e62_51 (fun _ => rfl) rfl ?_
            refine w_cv e62_52 (by decide) rfl e90 rfl (Nat.le_of_ble_eq_true rfl) (Nat.le_of_ble_eq_true rfl) (Nat.le_of_ble_eq_true rfl) (by decide) (by decide) (k60 hM hk hi_2) (fun o148 v149 hq150 => ?_)
            obtain ⟨rfl, q151, h152, rfl⟩ := hq150
            have hb153 := h152
            refine w_if e62_55 (by omega) (fun (h154 : q151 = 0) => ?_) (fun (h154 : q151 ≠ 0) => ?_)
            ·
              refine w_ldI e62_79 (fun _ => rfl) rfl ?_
              refine w_kI e62_80 ?_
              refine w_ic e62_81 hi_1 (by omega) (fun (h155 : i1 ≠ 3) => ?_) (fun (h155 : i1 = 3) => ?_)
              ·
                refine w_ldI e62_93 (fun _ => rfl) rfl ?_
                refine w_kI e62_94 ?_
                refine w_ic e62_95 hi_1 (by omega) (fun (h156 : i1 ≠ 4) => ?_) (fun (h156 : i1 = 4) => ?_)
                ·
                  refine w_x e62_107 (fun _ => rfl) ?_
                  exact w_rn e62_108 rfl ⟨Z, al, loF_0, Or.inl rfl, hk, hM⟩
                ·
                  refine w_ldI e62_98 (fun _ => rfl) rfl ?_
                  refine w_if e62_99 hi_2 (fun (h157 : i2 ≠ 0) => ?_) (fun (h157 : i2 = 0) => ?_)
                  ·
                    refine w_x e62_107 (fun _ => rfl) ?_
                    exact w_rn e62_108 rfl ⟨Z, al, loF_0, Or.inl rfl, hk, hM⟩
                  ·
                    refine w_ldA e62_102 (fun _ => rfl) rfl ?_
                    refine w_get e62_103 e90 rfl ?_
                    exact w_ra e62_106 rfl ⟨Z, al, loF_0, Or.inr ⟨_, (rfl : ty 224 = 1), rfl⟩, hk, hM⟩
              ·
                refine w_ldI e62_84 (fun _ => rfl) rfl ?_
                refine w_if e62_85 hi_2 (fun (h158 : i2 ≠ 0) => ?_) (fun (h158 : i2 = 0) => ?_)
                ·
                  refine w_ldI e62_93 (fun _ => rfl) rfl ?_
                  refine w_kI e62_94 ?_
                  refine w_ic e62_95 hi_1 (by omega) (fun (h159 : i1 ≠ 4) => ?_) (fun (h159 : i1 = 4) => ?_)
                  ·
                    refine w_x e62_107 (fun _ => rfl) ?_
                    exact w_rn e62_108 rfl ⟨Z, al, loF_0, Or.inl rfl, hk, hM⟩
                  ·
                    refine w_ldI e62_98 (fun _ => rfl) rfl ?_
                    refine w_if e62_99 hi_2 (fun (h160 : i2 ≠ 0) => ?_) (fun (h160 : i2 = 0) => ?_)
                    ·
                      refine w_x e62_107 (fun _ => rfl) ?_
                      exact w_rn e62_108 rfl ⟨Z, al, loF_0, Or.inl rfl, hk, hM⟩
                    ·
                      refine w_ldA e62_102 (fun _ => rfl) rfl ?_
                      refine w_get e62_103 e90 rfl ?_
                      exact w_ra e62_106 rfl ⟨Z, al, loF_0, Or.inr ⟨_, (rfl : ty 224 = 1), rfl⟩, hk, hM⟩
                ·
                  refine w_ldA e62_88 (fun _ => rfl) rfl ?_
                  refine w_get e62_89 e90 rfl ?_
                  exact w_ra e62_92 rfl ⟨Z, al, loF_0, Or.inr ⟨_, (rfl : ty 227 = 1), rfl⟩, hk, hM⟩
            ·
              obtain ⟨hR, hBq, hc⟩ := hset (by omega)
              have hB1 := hBq.1
              have hB2 := hBq.2.1
              refine w_ldA e62_58 (fun _ => rfl) rfl ?_
              refine w_get e62_59 e90 rfl ?_
              refine w_ldA e62_62 (fun _ => rfl) rfl ?_
              refine w_get e62_63 e90 rfl ?_
              have e161 := tk_tri hM
              refine w_get e62_66 e161 rfl ?_
              refine w_ldI e62_69 (fun _ => rfl) rfl ?_
              have e162 := tk_mem hM
              have hm163 := mb_lt hBq (j := (i2).toNat) (by omega)
              have hm164 := mb_q hBq (j := (i2).toNat) (by omega)
              refine w_qld e62_70 e162 (by decide) (by omega) (by omega) (by decide) hm164 ?_
              have e165 := tk_poly hM (rfl : ty 234 = 1)
              have hk166 := hk 234 (rfl : ty 234 = 1)
              refine w_cv e62_71 (by decide) rfl e165 rfl (Nat.le_of_ble_eq_true rfl) (Nat.le_of_ble_eq_true rfl) (Nat.le_of_ble_eq_true rfl) (by decide) (by decide) (k20 hM hk (rfl : ty 234 = 1) (ty_ri (B.reverse.getD ((i2).toNat) 0) (by omega)) (by omega)) (fun o167 v168 hq169 => ?_)
              obtain ⟨⟨Z170, al171, hf172, hk173, hM174⟩, rfl⟩ := hq169
              refine w_ldA e62_74 (fun _ => rfl) rfl ?_
              have e175 := tk_main hM174
              refine w_get e62_75 e175 rfl ?_
              exact w_ra e62_78 rfl ⟨Z170, al171, ⟨fun b _ b2 => hf172.1 b b2, fun b b1 b2 _ => hf172.2 b b1 b2⟩, Or.inr ⟨_, (rfl : ty 234 = 1), rfl⟩, hk173, hM174⟩
        ·
          obtain ⟨hR, hBq, hc⟩ := hset (by omega)
          have hB1 := hBq.1
          have hB2 := hBq.2.1
          refine w_ldA e62_32 (fun _ => rfl) rfl ?_
          refine w_get e62_33 e90 rfl ?_
          have e176 := tk_tri hM
          refine w_get e62_36 e176 rfl ?_
          refine w_ldI e62_39 (fun _ => rfl) rfl ?_
          have e177 := tk_mem hM
          have hm178 := mb_lt hBq (j := (i2).toNat) (by omega)
          have hm179 := mb_q hBq (j := (i2).toNat) (by omega)
          refine w_qld e62_40 e177 (by decide) (by omega) (by omega) (by decide) hm179 ?_
          have e180 := tk_row hM (ty_ri (B.reverse.getD ((i2).toNat) 0) (by omega))
          refine w_get e62_41 e180 rfl ?_
          exact w_ra e62_44 rfl ⟨Z, al, loF_0, Or.inr ⟨_, (ty_r (ty_ri (B.reverse.getD ((i2).toNat) 0) (by omega))), rfl⟩, hk, hM⟩
    ·
      refine w_ldA e62_12 (fun _ => rfl) rfl ?_
      refine w_get e62_13 e90 rfl ?_
      refine w_ldI e62_16 (fun _ => rfl) rfl ?_
      obtain ⟨f182, hf183, e181⟩ := tk_polys hM
      refine w_qld e62_17 e181 (by decide) (by omega) (by omega) (by decide) (hf183 _ (by omega)) ?_
      exact w_ra e62_18 rfl ⟨Z, al, loF_0, Or.inr ⟨_, (ty_pi ((i2).toNat) (by omega)), rfl⟩, hk, hM⟩
set_option maxRecDepth 100000 in
set_option maxHeartbeats 4000000 in
theorem k53 {Z : Nat → Nat → Int} {al : Nat → Nat → Int64} {ai : Nat → Nat → Int} {az : Nat → Nat → Int32} {mm : Nat → Option Nat} {sk : Nat} {v0 vh : vm_H} (hM : tk Z al ai az mm sk v0 vh) (hk : kn Z) {i1 : Int} (hi_1 : -2147483648 ≤ i1 ∧ i1 < 2147483648) {i2 : Int} (hi_2 : -2147483648 ≤ i2 ∧ i2 < 2147483648) {i3 : Int} (hi_3 : -2147483648 ≤ i3 ∧ i3 < 2147483648) {fr : Nat → Bool} {nv : Nat} {R : Nat → Po} {c : Nat} {B : List Nat} (hset : setK fr nv R c B Z al mm) (hp : 0 ≤ Z 1 0 ∧ Z 1 0 ≤ 16) : vm_Rp 3 69 53 [.ref 1, .int (vz i1), .int (vz i2), .int (vz i3)] vh (fun r v1 => ∃ (Z1 : Nat → Nat → Int) (al1 : Nat → Nat → Int64) (q : Int64), loF Z Z1 al al1 ∧ r = some (.long q) ∧ kn Z1 ∧ tk Z1 al1 ai az mm sk v0 v1) := by
  refine w_in (m := 1) ?_
  show vm_Wp _ _ _ 0 [some (.ref 1), some (.int (vz i1)), some (.int (vz i2)), some (.int (vz i3)), none] [] _ _
  refine w_ldA e53_0 (fun _ => rfl) rfl ?_
  refine w_ldI e53_1 (fun _ => rfl) rfl ?_
  refine w_ldI e53_2 (fun _ => rfl) rfl ?_
  have e1 := tk_main hM
  refine w_cv e53_3 (by decide) rfl e1 rfl (Nat.le_of_ble_eq_true rfl) (Nat.le_of_ble_eq_true rfl) (Nat.le_of_ble_eq_true rfl) (by decide) (by decide) (k62 hM hk hi_1 hi_2 hset hp) (fun o2 v3 hq4 => ?_)
  obtain ⟨Z5, al6, hf7, rfl | ⟨a8, ha9, rfl⟩, hk10, hM11⟩ := hq4
  ·
    refine w_stN (j := 4) (A1 := [some (.ref 1), some (.int (vz i1)), some (.int (vz i2)), some (.int (vz i3)), some (.null)]) e53_6 (fun _ => rfl) (by decide) rfl ?_
    refine w_ldN e53_8 (fun _ => rfl) rfl ?_
    refine w_x e53_10 (fun _ => rfl) ?_
    refine w_x e53_22 (fun _ => rfl) ?_
    exact w_rl e53_23 rfl ⟨Z5, al6, (Int64.ofNat 0), hf7, rfl, hk10, hM11⟩
  ·
    refine w_stA (j := 4) (A1 := [some (.ref 1), some (.int (vz i1)), some (.int (vz i2)), some (.int (vz i3)), some (.ref a8)]) e53_6 (fun _ => rfl) (by decide) rfl ?_
    refine w_ldA e53_8 (fun _ => rfl) rfl ?_
    refine w_x e53_10 (fun _ => rfl) ?_
    refine w_ldA e53_13 (fun _ => rfl) rfl ?_
    refine w_ldI e53_15 (fun _ => rfl) rfl ?_
    have e12 := tk_poly hM11 ha9
    have hk13 := hk10 a8 ha9
    refine w_cv e53_16 (by decide) rfl e12 rfl (Nat.le_of_ble_eq_true rfl) (Nat.le_of_ble_eq_true rfl) (Nat.le_of_ble_eq_true rfl) (by decide) (by decide) (k18 hM11 hk10 ha9 hi_3) (fun o14 v15 hq16 => ?_)
    obtain ⟨rfl, q17, h18, rfl⟩ := hq16
    have hb19 := h18
    refine w_if e53_19 (by omega) (fun (h20 : q17 ≠ 0) => ?_) (fun (h20 : q17 = 0) => ?_)
    ·
      refine w_ldA e53_24 (fun _ => rfl) rfl ?_
      refine w_get e53_26 e12 rfl ?_
      refine w_ldI e53_29 (fun _ => rfl) rfl ?_
      have e21 := tk_l60 hM11 (ty_p ha9).2
      refine w_lld e53_30 e21 (by omega) (by omega) (by decide) ?_
      exact w_rl e53_31 rfl ⟨Z5, al6, ((al6 (a8 + 2)) (i3).toNat), hf7, rfl, hk10, hM11⟩
    ·
      refine w_x e53_22 (fun _ => rfl) ?_
      exact w_rl e53_23 rfl ⟨Z5, al6, (Int64.ofNat 0), hf7, rfl, hk10, hM11⟩
set_option maxRecDepth 100000 in
set_option maxHeartbeats 4000000 in
theorem k54 {Z : Nat → Nat → Int} {al : Nat → Nat → Int64} {ai : Nat → Nat → Int} {az : Nat → Nat → Int32} {mm : Nat → Option Nat} {sk : Nat} {v0 vh : vm_H} (hM : tk Z al ai az mm sk v0 vh) (hk : kn Z) {i1 : Int} (hi_1 : -2147483648 ≤ i1 ∧ i1 < 2147483648) {i2 : Int} (hi_2 : -2147483648 ≤ i2 ∧ i2 < 2147483648) {i3 : Int} (hi_3 : -2147483648 ≤ i3 ∧ i3 < 2147483648) {fr : Nat → Bool} {nv : Nat} {R : Nat → Po} {c : Nat} {B : List Nat} (hset : setK fr nv R c B Z al mm) (hp : 0 ≤ Z 1 0 ∧ Z 1 0 ≤ 16) (hn : 0 ≤ Z 2 0 ∧ Z 2 0 ≤ 8) (hv : ∀ j, 0 ≤ ai 5 j ∧ ai 5 j < 8) : vm_Rp 3 69 54 [.ref 1, .int (vz i1), .int (vz i2), .int (vz i3)] vh (fun r v1 => ∃ (Z1 : Nat → Nat → Int) (al1 : Nat → Nat → Int64) (q : Int), loF Z Z1 al al1 ∧ r = some (.int (vz q)) ∧ kn Z1 ∧ tk Z1 al1 ai az mm sk v0 v1) := by
  refine w_in (m := 1) ?_
  show vm_Wp _ _ _ 0 [some (.ref 1), some (.int (vz i1)), some (.int (vz i2)), some (.int (vz i3)), none] [] _ _
  refine w_ldA e54_0 (fun _ => rfl) rfl ?_
  refine w_ldI e54_1 (fun _ => rfl) rfl ?_
  refine w_ldI e54_2 (fun _ => rfl) rfl ?_
  have e1 := tk_main hM
  refine w_cv e54_3 (by decide) rfl e1 rfl (Nat.le_of_ble_eq_true rfl) (Nat.le_of_ble_eq_true rfl) (Nat.le_of_ble_eq_true rfl) (by decide) (by decide) (k62 hM hk hi_1 hi_2 hset hp) (fun o2 v3 hq4 => ?_)
  obtain ⟨Z5, al6, hf7, rfl | ⟨a8, ha9, rfl⟩, hk10, hM11⟩ := hq4
  ·
    refine w_stN (j := 4) (A1 := [some (.ref 1), some (.int (vz i1)), some (.int (vz i2)), some (.int (vz i3)), some (.null)]) e54_6 (fun _ => rfl) (by decide) rfl ?_
    refine w_ldN e54_8 (fun _ => rfl) rfl ?_
    refine w_x e54_10 (fun _ => rfl) ?_
    refine w_kI e54_22 ?_
    exact w_ri e54_23 rfl ⟨Z5, al6, -1, hf7, rfl, hk10, hM11⟩
  ·
    refine w_stA (j := 4) (A1 := [some (.ref 1), some (.int (vz i1)), some (.int (vz i2)), some (.int (vz i3)), some (.ref a8)]) e54_6 (fun _ => rfl) (by decide) rfl ?_
    refine w_ldA e54_8 (fun _ => rfl) rfl ?_
    refine w_x e54_10 (fun _ => rfl) ?_
    refine w_ldA e54_13 (fun _ => rfl) rfl ?_
    refine w_ldI e54_15 (fun _ => rfl) rfl ?_
    have e12 := tk_poly hM11 ha9
    have hk13 := hk10 a8 ha9
    refine w_cv e54_16 (by decide) rfl e12 rfl (Nat.le_of_ble_eq_true rfl) (Nat.le_of_ble_eq_true rfl) (Nat.le_of_ble_eq_true rfl) (by decide) (by decide) (k18 hM11 hk10 ha9 hi_3) (fun o14 v15 hq16 => ?_)
    obtain ⟨rfl, q17, h18, rfl⟩ := hq16
    have hb19 := h18
    refine w_if e54_19 (by omega) (fun (h20 : q17 ≠ 0) => ?_) (fun (h20 : q17 = 0) => ?_)
    ·
      refine w_ldA e54_24 (fun _ => rfl) rfl ?_
      have e21 := tk_main hM11
      refine w_get e54_25 e21 rfl ?_
      refine w_ldA e54_28 (fun _ => rfl) rfl ?_
      refine w_get e54_30 e12 rfl ?_
      refine w_ldI e54_33 (fun _ => rfl) rfl ?_
      have e22 := tk_l60 hM11 (ty_p ha9).1
      refine w_lld e54_34 e22 (by omega) (by omega) (by decide) ?_
      have e23 := tk_pla hM11
      refine w_cv e54_35 (by decide) rfl e23 rfl (Nat.le_of_ble_eq_true rfl) (Nat.le_of_ble_eq_true rfl) (Nat.le_of_ble_eq_true rfl) (by decide) (by decide) (c9x (tk_pla hM11) (tk_vars hM11) (by rw [hf7.1 2 (by decide) (by decide)]; exact hn) hv) (fun o24 v25 hq26 => ?_)
      obtain ⟨rfl, hr9⟩ := hq26
      obtain ⟨w29, hw9⟩ : ∃ w : Int32, o24 = some (.int w) := ⟨_, hr9⟩
      clear hr9
      subst hw9
      obtain ⟨q27, rfl, h28⟩ := vz_ex w29
      exact w_ri e54_38 rfl ⟨Z5, al6, q27, hf7, rfl, hk10, hM11⟩
    ·
      refine w_kI e54_22 ?_
      exact w_ri e54_23 rfl ⟨Z5, al6, -1, hf7, rfl, hk10, hM11⟩
set_option maxRecDepth 100000 in
set_option maxHeartbeats 4000000 in
theorem k56 {Z : Nat → Nat → Int} {al : Nat → Nat → Int64} {ai : Nat → Nat → Int} {az : Nat → Nat → Int32} {mm : Nat → Option Nat} {sk : Nat} {v0 vh : vm_H} (hM : tk Z al ai az mm sk v0 vh) (hk : kn Z) {i1 : Int} (hi_1 : -2147483648 ≤ i1 ∧ i1 < 2147483648) {i2 : Int} (hi_2 : -2147483648 ≤ i2 ∧ i2 < 2147483648) {fr : Nat → Bool} {nv : Nat} {R : Nat → Po} {c : Nat} {B : List Nat} (hset : setK fr nv R c B Z al mm) (hp : 0 ≤ Z 1 0 ∧ Z 1 0 ≤ 16) (hn : 0 ≤ Z 2 0 ∧ Z 2 0 ≤ 8) (hv : ∀ j, 0 ≤ ai 5 j ∧ ai 5 j < 8) : vm_Rp 3 73 56 [.ref 1, .int (vz i1), .int (vz i2)] vh (fun r v1 => ∃ (Z1 : Nat → Nat → Int) (al1 : Nat → Nat → Int64) (q : Int64), loF Z Z1 al al1 ∧ r = some (.long q) ∧ kn Z1 ∧ tk Z1 al1 ai az mm sk v0 v1) := by
  refine w_in (m := 1) ?_
  show vm_Wp _ _ _ 0 [some (.ref 1), some (.int (vz i1)), some (.int (vz i2)), none] [] _ _
  refine w_ldA e56_0 (fun _ => rfl) rfl ?_
  refine w_ldI e56_1 (fun _ => rfl) rfl ?_
  refine w_ldI e56_2 (fun _ => rfl) rfl ?_
  have e1 := tk_main hM
  refine w_cv e56_3 (by decide) rfl e1 rfl (Nat.le_of_ble_eq_true rfl) (Nat.le_of_ble_eq_true rfl) (Nat.le_of_ble_eq_true rfl) (by decide) (by decide) (k62 hM hk hi_1 hi_2 hset hp) (fun o2 v3 hq4 => ?_)
  obtain ⟨Z5, al6, hf7, rfl | ⟨a8, ha9, rfl⟩, hk10, hM11⟩ := hq4
  ·
    refine w_stN (j := 3) (A1 := [some (.ref 1), some (.int (vz i1)), some (.int (vz i2)), some (.null)]) e56_6 (fun _ => rfl) (by decide) rfl ?_
    refine w_ldN e56_7 (fun _ => rfl) rfl ?_
    refine w_x e56_8 (fun _ => rfl) ?_
    refine w_x e56_11 (fun _ => rfl) ?_
    refine w_x e56_12 (fun _ => rfl) ?_
    exact w_rl e56_23 rfl ⟨Z5, al6, (Int64.ofNat 0), hf7, rfl, hk10, hM11⟩
  ·
    refine w_stA (j := 3) (A1 := [some (.ref 1), some (.int (vz i1)), some (.int (vz i2)), some (.ref a8)]) e56_6 (fun _ => rfl) (by decide) rfl ?_
    refine w_ldA e56_7 (fun _ => rfl) rfl ?_
    refine w_x e56_8 (fun _ => rfl) ?_
    refine w_ldA e56_15 (fun _ => rfl) rfl ?_
    have e12 := tk_main hM11
    refine w_get e56_16 e12 rfl ?_
    refine w_ldA e56_19 (fun _ => rfl) rfl ?_
    have e13 := tk_pla hM11
    refine w_cv e56_20 (by decide) rfl e13 rfl (Nat.le_of_ble_eq_true rfl) (Nat.le_of_ble_eq_true rfl) (Nat.le_of_ble_eq_true rfl) (by decide) (by decide) (k13 hM11 hk10 ha9 (by rw [hf7.1 2 (by decide) (by decide)]; exact hn) hv) (fun o14 v15 hq16 => ?_)
    obtain ⟨rfl, rfl⟩ := hq16
    exact w_rl e56_23 rfl ⟨Z5, al6, (vlF (al6 4) (ai 5) (Z5 2 0).toNat (al6 (a8 + 1)) (al6 (a8 + 2)) (Z5 a8 0).toNat), hf7, rfl, hk10, hM11⟩
set_option maxRecDepth 100000 in
set_option maxHeartbeats 4000000 in
theorem k50 {Z : Nat → Nat → Int} {al : Nat → Nat → Int64} {ai : Nat → Nat → Int} {az : Nat → Nat → Int32} {mm : Nat → Option Nat} {sk : Nat} {v0 vh : vm_H} (hM : tk Z al ai az mm sk v0 vh) (hk : kn Z) {i1 : Int} (hi_1 : -2147483648 ≤ i1 ∧ i1 < 2147483648) {fr : Nat → Bool} {nv : Nat} {R : Nat → Po} {c : Nat} {B : List Nat} (hset : setK fr nv R c B Z al mm) {n : Nat} {U : Nat → Po} (hn8 : nv ≤ 8) (hU : usK nv n U Z al) (hn16 : n ≤ 16) (h10 : Z 1 0 = (n : Int)) (h217 : 0 ≤ Z 217 0) : vm_Rp 4 115 50 [.ref 1, .int (vz i1)] vh (fun r v1 => ∃ (Z1 : Nat → Nat → Int) (al1 : Nat → Nat → Int64) (ai1 : Nat → Nat → Int) (sk1 : Nat) (q : Int), ((q = -1 ∧ (¬ (0 ≤ i1 ∧ i1 < Z 1 0) ∨ Z 217 0 = 0) ∧ Z1 = Z ∧ al1 = al ∧ ai1 = ai) ∨ ((0 ≤ i1 ∧ i1 < Z 1 0) ∧ 0 < Z 217 0 ∧ pvO fr nv R B (U (i1).toNat) Z Z1 al al1 ai ai1 q)) ∧ r = some (.int (vz q)) ∧ kn Z1 ∧ tk Z1 al1 ai1 az mm sk1 v0 v1) := by
  refine w_in (m := 1) ?_
  show vm_Wp _ _ _ 0 [some (.ref 1), some (.int (vz i1)), none] [] _ _
  refine w_ldA e50_0 (fun _ => rfl) rfl ?_
  refine w_ldI e50_1 (fun _ => rfl) rfl ?_
  have e1 := tk_main hM
  refine w_cv e50_2 (by decide) rfl e1 rfl (Nat.le_of_ble_eq_true rfl) (Nat.le_of_ble_eq_true rfl) (Nat.le_of_ble_eq_true rfl) (by decide) (by decide) (k59 hM hk hi_1) (fun o2 v3 hq4 => ?_)
  obtain ⟨rfl, q5, h6, rfl⟩ := hq4
  have hb7 := h6
  refine w_if e50_5 (by omega) (fun (h8 : q5 = 0) => ?_) (fun (h8 : q5 ≠ 0) => ?_)
  ·
    refine w_kI e50_18 ?_
    exact w_ri e50_19 rfl ⟨Z, al, ai, sk, -1, Or.inl ⟨rfl, by omega, rfl, rfl, rfl⟩, rfl, hk, hM⟩
  ·
    refine w_ldA e50_8 (fun _ => rfl) rfl ?_
    refine w_get e50_9 e1 rfl ?_
    have e9 := tk_tri hM
    refine w_get e50_12 e9 rfl ?_
    refine w_if e50_15 (tk_r hM 217 0) (fun (h10 : Z 217 0 ≠ 0) => ?_) (fun (h10 : Z 217 0 = 0) => ?_)
    ·
      obtain ⟨hR, hBq, hc⟩ := hset (by omega)
      refine w_ldA e50_20 (fun _ => rfl) rfl ?_
      refine w_get e50_21 e1 rfl ?_
      have e11 := tk_poly hM (rfl : ty 227 = 1)
      have hk12 := hk 227 (rfl : ty 227 = 1)
      refine w_cv e50_24 (by decide) rfl e11 rfl (Nat.le_of_ble_eq_true rfl) (Nat.le_of_ble_eq_true rfl) (Nat.le_of_ble_eq_true rfl) (by decide) (by decide) (k17 hM hk (rfl : ty 227 = 1)) (fun o13 v14 hq15 => ?_)
      obtain ⟨⟨Z16, hd17, hk18, hM19⟩, rfl⟩ := hq15
      refine w_ldA e50_27 (fun _ => rfl) rfl ?_
      have e20 := tk_main hM19
      refine w_get e50_28 e20 rfl ?_
      refine w_ldA e50_31 (fun _ => rfl) rfl ?_
      refine w_get e50_32 e20 rfl ?_
      refine w_ldI e50_35 (fun _ => rfl) rfl ?_
      obtain ⟨f22, hf23, e21⟩ := tk_polys hM19
      refine w_qld e50_36 e21 (by decide) (by omega) (by omega) (by decide) (hf23 _ (by omega)) ?_
      have e24 := tk_poly hM19 (rfl : ty 234 = 1)
      have hk25 := hk18 234 (rfl : ty 234 = 1)
      refine w_cv e50_37 (by decide) rfl e24 rfl (Nat.le_of_ble_eq_true rfl) (Nat.le_of_ble_eq_true rfl) (Nat.le_of_ble_eq_true rfl) (by decide) (by decide) (k19 hM19 hk18 (rfl : ty 234 = 1) (ty_pi ((i1).toNat) (by omega)) (by omega)) (fun o26 v27 hq28 => ?_)
      obtain ⟨⟨al29, hc30, hM31⟩, rfl⟩ := hq28
      obtain ⟨Z33, hd34⟩ : ∃ z, z = u2 Z16 234 0 (Z16 (7 + 3 * (i1).toNat) 0) := ⟨_, rfl⟩
      rw [← hd34] at hM31
      have hk32 := kn_u hk18 hd34 (fun _ => hk18 (7 + 3 * (i1).toNat) (ty_pi ((i1).toNat) (by omega)))
      have hp1 := pvF_tr (pvF_Z (al := al) (ai := ai) hd17 (by omega)) (pvF_tr (pvF_cp hc30 (by omega)) (pvF_Z hd34 (by omega)))
      have hUi := hU (i1).toNat (by omega)
      have hUw := (us_pv hU hn16 hp1) (i1).toNat (by omega)
      have hLw : pL Z33 al29 234 (U (i1).toNat) := pL_cp (pL_cg (Z1 := Z16) hUi.1 (by rw [hd17, u2_af (by omega)]) (fun _ _ => ⟨rfl, rfl⟩)) (by rw [hd34, u2_s]) hc30
      have e27 : Z33 227 0 = 0 := by rw [hd34, u2_af (by decide), hd17, u2_s]
      have e30 : Z33 230 = Z 230 ∧ al29 231 = al 231 ∧ al29 232 = al 232 := ⟨by rw [hd34, u2_af (by decide), hd17, u2_af (by decide)], hc30.1 231 (by decide) (by decide), hc30.1 232 (by decide) (by decide)⟩
      refine w_ldA e50_40 (fun _ => rfl) rfl ?_
      refine w_kS e50_41 rfl ?_
      have e35 := tk_main hM31
      refine w_cv e50_44 (by decide) rfl e35 rfl (Nat.le_of_ble_eq_true rfl) (Nat.le_of_ble_eq_true rfl) (Nat.le_of_ble_eq_true rfl) (by decide) (by decide) (k72 hM31 hk32 (by omega) (rwK_pv hR hc hp1) (mbK_pv hBq hp1) hc hn8 hLw hUi.2) (fun o36 v37 hq38 => ?_)
      obtain ⟨Z39, al40, ai41, sk42, q43, ho44, hw45, rfl, hk46, hM47⟩ := hq38
      have hb48 := ho44.1
      refine w_stI (j := 2) (A1 := [some (.ref 1), some (.int (vz i1)), some (.int (vz q43))]) e50_47 (fun _ => rfl) (by decide) rfl ?_
      refine w_ldA e50_48 (fun _ => rfl) rfl ?_
      refine w_ldA e50_49 (fun _ => rfl) rfl ?_
      have e49 := tk_main hM47
      refine w_get e50_50 e49 rfl ?_
      refine w_put e50_53 e49 (Nat.le_of_ble_eq_true rfl) rfl (fun v52 b50 h51 => ?_)
      obtain ⟨Z53, hd54, hM55⟩ : ∃ z, z = u2 Z39 1 5 (Z39 1 2) ∧ tk z al40 ai41 az mm sk42 v0 v52 := ⟨_, rfl, tk_Zm5 hM47 (tk_r hM47 1 2) b50 h51⟩
      have hk56 := kn_u hk46 hd54 (fun h9 => absurd h9 (by decide))
      refine w_ldI e50_56 (fun _ => rfl) rfl ?_
      refine w_if e50_57 (by omega) (fun (h57 : q43 ≠ 0) => ?_) (fun (h57 : q43 = 0) => ?_)
      ·
        refine w_ldA e50_62 (fun _ => rfl) rfl ?_
        have e58 := tk_main hM55
        refine w_get e50_63 e58 rfl ?_
        refine w_ldA e50_66 (fun _ => rfl) rfl ?_
        refine w_get e50_67 e58 rfl ?_
        refine w_ldI e50_70 (fun _ => rfl) rfl ?_
        obtain ⟨f60, hf61, e59⟩ := tk_polys hM55
        refine w_qld e50_71 e59 (by decide) (by omega) (by omega) (by decide) (hf61 _ (by omega)) ?_
        have e62 := tk_poly hM55 (rfl : ty 230 = 1)
        have hk63 := hk56 230 (rfl : ty 230 = 1)
        refine w_cv e50_72 (by decide) rfl e62 rfl (Nat.le_of_ble_eq_true rfl) (Nat.le_of_ble_eq_true rfl) (Nat.le_of_ble_eq_true rfl) (by decide) (by decide) (k19 hM55 hk56 (rfl : ty 230 = 1) (ty_pi ((i1).toNat) (by omega)) (by omega)) (fun o64 v65 hq66 => ?_)
        obtain ⟨⟨al67, hc68, hM69⟩, rfl⟩ := hq66
        obtain ⟨Z71, hd72⟩ : ∃ z, z = u2 Z53 230 0 (Z53 (7 + 3 * (i1).toNat) 0) := ⟨_, rfl⟩
        rw [← hd72] at hM69
        have hk70 := kn_u hk56 hd72 (fun _ => hk56 (7 + 3 * (i1).toNat) (ty_pi ((i1).toNat) (by omega)))
        refine w_ldA e50_75 (fun _ => rfl) rfl ?_
        have e73 := tk_main hM69
        refine w_get e50_76 e73 rfl ?_
        refine w_kI e50_79 ?_
        refine w_ldA e50_80 (fun _ => rfl) rfl ?_
        refine w_get e50_81 e73 rfl ?_
        refine w_kI e50_84 ?_
        refine w_kB e50_85 rfl ?_
        have e74 := tk_i8 hM69 (rfl : ty 237 = 15)
        have e75 := tk_i8 hM69 (rfl : ty 233 = 15)
        refine w_acI e50_87 e74 e75 (by decide) (by omega) (by omega) (by omega) (by omega) (by omega) (by decide) (by decide) (Nat.le_of_ble_eq_true rfl) (by decide) (by decide) (fun v76 b77 h78 => ?_)
        rw [cpy_vz] at h78
        obtain ⟨ai79, hd80, hM81⟩ : ∃ z, z = uA ai41 233 (va_cpy (ai41 237) (ai41 233) (0 : Int).toNat (0 : Int).toNat (8 : Int).toNat) ∧ tk Z71 al67 z az mm sk42 v0 v76 := ⟨_, rfl, tk_IA hM69 rfl (cpy_r (tk_ri hM69 237) (tk_ri hM69 233)) b77 h78⟩
        refine w_ldA e50_90 (fun _ => rfl) rfl ?_
        have e82 := tk_main hM81
        refine w_get e50_91 e82 rfl ?_
        refine w_ldA e50_94 (fun _ => rfl) rfl ?_
        refine w_get e50_95 e82 rfl ?_
        have e83 := tk_poly hM81 (rfl : ty 227 = 1)
        have hk84 := hk70 227 (rfl : ty 227 = 1)
        refine w_cv e50_98 (by decide) rfl e83 rfl (Nat.le_of_ble_eq_true rfl) (Nat.le_of_ble_eq_true rfl) (Nat.le_of_ble_eq_true rfl) (by decide) (by decide) (k19 hM81 hk70 (rfl : ty 227 = 1) (rfl : ty 234 = 1) (by decide)) (fun o85 v86 hq87 => ?_)
        obtain ⟨⟨al88, hc89, hM90⟩, rfl⟩ := hq87
        obtain ⟨Z92, hd93⟩ : ∃ z, z = u2 Z71 227 0 (Z71 234 0) := ⟨_, rfl⟩
        rw [← hd93] at hM90
        have hk91 := kn_u hk70 hd93 (fun _ => hk70 234 (rfl : ty 234 = 1))
        refine w_ldA e50_101 (fun _ => rfl) rfl ?_
        have e94 := tk_main hM90
        refine w_get e50_102 e94 rfl ?_
        have e95 := tk_poly hM90 (rfl : ty 227 = 1)
        have hk96 := hk91 227 (rfl : ty 227 = 1)
        refine w_get e50_105 e95 rfl ?_
        refine w_if e50_108 (tk_r hM90 227 0) (fun (h97 : Z92 227 0 ≠ 0) => ?_) (fun (h97 : Z92 227 0 = 0) => ?_)
        ·
          refine w_kI e50_115 ?_
          exact w_ri e50_116 rfl ⟨Z92, al88, ai79, sk42, 0, Or.inr ⟨by omega, by omega, pv_t (by omega) hp1 hUw.1 ho44 hw45 hd54 rfl (by omega) hc68 hd72 (fun b hb => by rw [hd80, uA_o hb]) hc89 hd93 (by omega)⟩, rfl, hk91, hM90⟩
        ·
          refine w_kI e50_111 ?_
          refine w_x e50_112 (fun _ => rfl) ?_
          exact w_ri e50_116 rfl ⟨Z92, al88, ai79, sk42, 1, Or.inr ⟨by omega, by omega, pv_t (by omega) hp1 hUw.1 ho44 hw45 hd54 rfl (by omega) hc68 hd72 (fun b hb => by rw [hd80, uA_o hb]) hc89 hd93 (by omega)⟩, rfl, hk91, hM90⟩
      ·
        refine w_kI e50_60 ?_
        exact w_ri e50_61 rfl ⟨Z53, al40, ai41, sk42, 2, Or.inr ⟨by omega, by omega, pv_f hp1 e27 e30 ho44 hw45 hd54 rfl (by omega)⟩, rfl, hk56, hM55⟩
    ·
      refine w_kI e50_18 ?_
      exact w_ri e50_19 rfl ⟨Z, al, ai, sk, -1, Or.inl ⟨rfl, by omega, rfl, rfl, rfl⟩, rfl, hk, hM⟩
set_option maxRecDepth 100000 in
set_option maxHeartbeats 4000000 in
theorem k57_L {Z : Nat → Nat → Int} {al : Nat → Nat → Int64} {ai : Nat → Nat → Int} {az : Nat → Nat → Int32} {mm : Nat → Option Nat} {sk : Nat} {v0 : vm_H} (hk : kn Z) {i1 : Int} (hi_1 : -2147483648 ≤ i1 ∧ i1 < 2147483648) {fr : Nat → Bool} {nv : Nat} {R : Nat → Po} {c : Nat} {B : List Nat} (hset : setK fr nv R c B Z al mm) (hn : 0 ≤ Z 2 0 ∧ Z 2 0 ≤ 8) (hv : ∀ j, 0 ≤ ai 5 j ∧ ai 5 j < 8) {fp : Po} (hn8 : nv ≤ 8) (hpv : pL Z al 230 fp) (hgp : gk nv fp) : ∀ N : Nat, (∀ (vh : vm_H) (Z_ : Nat → Nat → Int) (al_ : Nat → Nat → Int64) (sk_ : Nat) (y2 : Int64) (x4 : Int) (x5 : Int), (tk Z_ al_ ai az mm sk_ v0 vh) → (kn Z_) → (-1 ≤ x4 ∧ x4 < Z_ 217 0) → (0 ≤ x5 ∧ x5 ≤ 200) → ((rwK fr nv Z al R c ∧ mbK Z mm B c ∧ c ≤ 40) ∧ loF Z Z_ al al_ ∧ ∃ f, pL Z_ al_ 234 f ∧ gk nv f) → ((201 - x5 : Int).toNat < N) → vm_Wp 3 92 57 37 [some (.ref 1), some (.int (vz i1)), some (.long y2), none, some (.int (vz x4)), some (.int (vz x5)), none] [] vh (vq_P 57 (fun r v1 => ∃ (Z1 : Nat → Nat → Int) (al1 : Nat → Nat → Int64) (sk1 : Nat) (q : Int64), loF Z Z1 al al1 ∧ r = some (.long q) ∧ kn Z1 ∧ tk Z1 al1 ai az mm sk1 v0 v1))) := by
  intro N
  induction N with
  | zero => exact (by intros; omega)
  | succ N ih =>
    ·
      intro vh Z_ al_ sk_ y2 x4 x5 hM hk_ hx4 hx5 hi0q hN
      obtain ⟨hR, hBq, hc⟩ := hi0q.1
      obtain ⟨_, hlo, f, hLf, hgf⟩ := id hi0q
      have hR_ := rwK_lo hR hc hlo
      have hB_ := mbK_lo hBq hlo
      have hB3 := hB_.1
      have hB2 := hB_.2.1
      have hn_ : 0 ≤ Z_ 2 0 ∧ Z_ 2 0 ≤ 8 := by rw [hlo.1 2 (by decide) (by decide)]; exact hn
      refine w_ldI e57_37 (fun _ => rfl) rfl ?_
      refine w_kS e57_39 rfl ?_
      refine w_ic e57_42 (by omega) (by omega) (fun (h22 : 200 ≤ x5) => ?_) (fun (h22 : x5 < 200) => ?_)
      ·
        refine w_ldL e57_178 (fun _ => rfl) rfl ?_
        exact w_rl e57_179 rfl ⟨Z_, al_, sk_, y2, hlo, rfl, hk_, hM⟩
      ·
        refine w_ldA e57_45 (fun _ => rfl) rfl ?_
        have e23 := tk_main hM
        refine w_get e57_46 e23 rfl ?_
        refine w_ldI e57_49 (fun _ => rfl) rfl ?_
        refine w_ldA e57_51 (fun _ => rfl) rfl ?_
        refine w_get e57_52 e23 rfl ?_
        have e24 := tk_tri hM
        refine w_cv e57_55 (by decide) rfl e24 rfl (Nat.le_of_ble_eq_true rfl) (Nat.le_of_ble_eq_true rfl) (Nat.le_of_ble_eq_true rfl) (by decide) (by decide) (k42 hM hk_ (by omega) (rfl : ty 234 = 1) hB_ hc) (fun o25 v26 hq27 => ?_)
        obtain ⟨rfl, q28, h29, rfl⟩ := hq27
        have hd30 := duK_bd h29 (by omega)
        refine w_stI (j := 4) (A1 := [some (.ref 1), some (.int (vz i1)), some (.long y2), none, some (.int (vz q28)), some (.int (vz x5)), none]) e57_58 (fun _ => rfl) (by decide) rfl ?_
        refine w_ldI e57_60 (fun _ => rfl) rfl ?_
        refine w_kI e57_62 ?_
        refine w_ic e57_63 (by omega) (by omega) (fun (h31 : q28 ≠ -1) => ?_) (fun (h31 : q28 = -1) => ?_)
        ·
          obtain ⟨hdq, hdu, heq⟩ := (du_e h29 hR_ hB_ hn8 hLf hgf (by omega)).resolve_left (fun h9 => by have := h9.1; omega)
          refine w_ldA e57_69 (fun _ => rfl) rfl ?_
          refine w_get e57_70 e23 rfl ?_
          refine w_get e57_73 e24 rfl ?_
          refine w_ldI e57_76 (fun _ => rfl) rfl ?_
          have e32 := tk_mem hM
          have hm33 := mb_lt hB_ (j := (q28).toNat) (by omega)
          have hm34 := mb_q hB_ (j := (q28).toNat) (by omega)
          refine w_qld e57_78 e32 (by decide) (by omega) (by omega) (by decide) hm34 ?_
          refine w_stA (j := 6) (A1 := [some (.ref 1), some (.int (vz i1)), some (.long y2), none, some (.int (vz q28)), some (.int (vz x5)), some (.ref (57 + 4 * B.reverse.getD ((q28).toNat) 0))]) e57_79 (fun _ => rfl) (by decide) rfl ?_
          refine w_ldL e57_81 (fun _ => rfl) rfl ?_
          refine w_ldA e57_82 (fun _ => rfl) rfl ?_
          refine w_get e57_83 e23 rfl ?_
          refine w_ldA e57_86 (fun _ => rfl) rfl ?_
          have e35 := tk_row hM (ty_ri (B.reverse.getD ((q28).toNat) 0) (by omega))
          refine w_get e57_88 e35 rfl ?_
          refine w_ldA e57_91 (fun _ => rfl) rfl ?_
          refine w_get e57_93 e35 rfl ?_
          refine w_ldA e57_96 (fun _ => rfl) rfl ?_
          refine w_get e57_98 e35 rfl ?_
          refine w_ldA e57_101 (fun _ => rfl) rfl ?_
          refine w_get e57_103 e35 rfl ?_
          have e36 := tk_pla hM
          refine w_cv e57_106 (by decide) rfl e36 rfl (Nat.le_of_ble_eq_true rfl) (Nat.le_of_ble_eq_true rfl) (Nat.le_of_ble_eq_true rfl) (by decide) (by decide) (k14 hM hk_ (ty_r (ty_ri (B.reverse.getD ((q28).toNat) 0) (by omega))) (tk_r hM (57 + 4 * B.reverse.getD ((q28).toNat) 0) 0) (tk_r hM (57 + 4 * B.reverse.getD ((q28).toNat) 0) 1) (tk_r hM (57 + 4 * B.reverse.getD ((q28).toNat) 0) 1) hn_ hv) (fun o37 v38 hq39 => ?_)
          obtain ⟨rfl, q40, rfl⟩ := hq39
          refine w_x e57_109 (fun _ => rfl) ?_
          refine w_stL (j := 2) (A1 := [some (.ref 1), some (.int (vz i1)), some (.long ((y2 * q40))), none, some (.int (vz q28)), some (.int (vz x5)), some (.ref (57 + 4 * B.reverse.getD ((q28).toNat) 0))]) e57_110 (fun _ => rfl) (by decide) rfl ?_
          refine w_ldI e57_111 (fun _ => rfl) rfl ?_
          refine w_ldI e57_113 (fun _ => rfl) rfl ?_
          refine w_ic e57_114 (by omega) hi_1 (fun (h41 : q28 ≠ i1) => ?_) (fun (h41 : q28 = i1) => ?_)
          ·
            refine w_ldA e57_153 (fun _ => rfl) rfl ?_
            refine w_get e57_154 e23 rfl ?_
            refine w_ldA e57_157 (fun _ => rfl) rfl ?_
            refine w_get e57_158 e23 rfl ?_
            refine w_ldA e57_161 (fun _ => rfl) rfl ?_
            have e42 := tk_stp hM
            refine w_cv e57_163 (by decide) rfl e42 rfl (Nat.le_of_ble_eq_true rfl) (Nat.le_of_ble_eq_true rfl) (Nat.le_of_ble_eq_true rfl) (by decide) (by decide) (k32 hM hk_ (rfl : ty 234 = 1) (ty_ri (B.reverse.getD ((q28).toNat) 0) (by omega)) hLf hgf (hR_.1 (B.reverse.getD (q28).toNat 0) (by omega)).1.1 (hR_.1 (B.reverse.getD (q28).toNat 0) (by omega)).1.2 hn8 (rw_p hR_ (by omega)) (rw_e hR_ (by omega)) hdu.2 (by omega)) (fun o43 v44 hq45 => ?_)
            obtain ⟨Z46, al47, sk48, q49, ⟨hb50, ho51⟩, rfl, hk52, hM53⟩ := hq45
            have hz2 : Z46 217 0 = Z_ 217 0 := by rw [ho51.1 217 (by decide) (by decide)]
            refine w_if e57_166 (by omega) (fun (h54 : q49 ≠ 0) => ?_) (fun (h54 : q49 = 0) => ?_)
            ·
              obtain ⟨_, g9, hst9, hgL, hgg⟩ := ho51.2.2.resolve_left (fun h9 => by have := h9.1; omega)
              refine w_iinc (A1 := [some (.ref 1), some (.int (vz i1)), some (.long ((y2 * q40))), none, some (.int (vz q28)), some (.int (vz (x5 + 1))), some (.ref (57 + 4 * B.reverse.getD ((q28).toNat) 0))]) e57_172 rfl (by decide) rfl ?_
              refine w_x e57_175 (fun _ => rfl) ?_
              exact w_sub (A1 := [some (.ref 1), some (.int (vz i1)), some (.long ((y2 * q40))), none, some (.int (vz q28)), some (.int (vz (x5 + 1))), none]) (And.intro rfl (And.intro rfl (And.intro rfl (And.intro rfl (And.intro rfl trivial))))) ((ih) v44 Z46 al47 sk48 ((y2 * q40)) q28 (x5 + 1) hM53 hk52 (by omega) (by omega) ⟨hi0q.1, loF_tr hlo (loF_st ho51), g9, hgL, hgg⟩ (by omega))
            ·
              refine w_x e57_169 (fun _ => rfl) ?_
              refine w_ldL e57_178 (fun _ => rfl) rfl ?_
              exact w_rl e57_179 rfl ⟨Z46, al47, sk48, (y2 * q40), (loF_tr hlo (loF_st ho51)), rfl, hk52, hM53⟩
          ·
            refine w_ldL e57_117 (fun _ => rfl) rfl ?_
            refine w_ldA e57_118 (fun _ => rfl) rfl ?_
            refine w_get e57_119 e23 rfl ?_
            refine w_ldA e57_122 (fun _ => rfl) rfl ?_
            refine w_get e57_123 e23 rfl ?_
            refine w_ldA e57_126 (fun _ => rfl) rfl ?_
            refine w_get e57_128 e35 rfl ?_
            refine w_ldA e57_131 (fun _ => rfl) rfl ?_
            refine w_get e57_132 e23 rfl ?_
            refine w_ldA e57_135 (fun _ => rfl) rfl ?_
            refine w_get e57_137 e35 rfl ?_
            have e55 := tk_poly hM (rfl : ty 234 = 1)
            have hk56 := hk_ 234 (rfl : ty 234 = 1)
            refine w_cv e57_140 (by decide) rfl e55 rfl (Nat.le_of_ble_eq_true rfl) (Nat.le_of_ble_eq_true rfl) (Nat.le_of_ble_eq_true rfl) (by decide) (by decide) (k22 hM hk_ (rfl : ty 234 = 1) (tk_r hM (57 + 4 * B.reverse.getD ((q28).toNat) 0) 0)) (fun o57 v58 hq59 => ?_)
            obtain ⟨rfl, rfl⟩ := hq59
            have hp60 := dgk_bd (al_ (235)) (Z_ (57 + 4 * B.reverse.getD ((q28).toNat) 0) 0) (Z_ 234 0).toNat
            have hdg9 : 0 ≤ dgk (al_ (234 + 1)) (Z_ (57 + 4 * B.reverse.getD ((q28).toNat) 0) 0) (Z_ 234 0).toNat ∧ dgk (al_ (234 + 1)) (Z_ (57 + 4 * B.reverse.getD ((q28).toNat) 0) 0) (Z_ 234 0).toNat ≤ 255 := dgk_bd _ _ _
            refine w_ldA e57_143 (fun _ => rfl) rfl ?_
            refine w_get e57_145 e35 rfl ?_
            refine w_cv e57_148 (by decide) rfl e36 rfl (Nat.le_of_ble_eq_true rfl) (Nat.le_of_ble_eq_true rfl) (Nat.le_of_ble_eq_true rfl) (by decide) (by decide) (k14 hM hk_ (rfl : ty 234 = 1) (tk_r hM (57 + 4 * B.reverse.getD ((q28).toNat) 0) 0) (by omega) (tk_r hM (57 + 4 * B.reverse.getD ((q28).toNat) 0) 1) hn_ hv) (fun o61 v62 hq63 => ?_)
            obtain ⟨rfl, q64, rfl⟩ := hq63
            refine w_x e57_151 (fun _ => rfl) ?_
            refine w_stL (j := 2) (A1 := [some (.ref 1), some (.int (vz i1)), some (.long ((((y2 * q40)) + q64))), none, some (.int (vz q28)), some (.int (vz x5)), some (.ref (57 + 4 * B.reverse.getD ((q28).toNat) 0))]) e57_152 (fun _ => rfl) (by decide) rfl ?_
            refine w_ldA e57_153 (fun _ => rfl) rfl ?_
            refine w_get e57_154 e23 rfl ?_
            refine w_ldA e57_157 (fun _ => rfl) rfl ?_
            refine w_get e57_158 e23 rfl ?_
            refine w_ldA e57_161 (fun _ => rfl) rfl ?_
            have e65 := tk_stp hM
            refine w_cv e57_163 (by decide) rfl e65 rfl (Nat.le_of_ble_eq_true rfl) (Nat.le_of_ble_eq_true rfl) (Nat.le_of_ble_eq_true rfl) (by decide) (by decide) (k32 hM hk_ (rfl : ty 234 = 1) (ty_ri (B.reverse.getD ((q28).toNat) 0) (by omega)) hLf hgf (hR_.1 (B.reverse.getD (q28).toNat 0) (by omega)).1.1 (hR_.1 (B.reverse.getD (q28).toNat 0) (by omega)).1.2 hn8 (rw_p hR_ (by omega)) (rw_e hR_ (by omega)) hdu.2 (by omega)) (fun o66 v67 hq68 => ?_)
            obtain ⟨Z69, al70, sk71, q72, ⟨hb73, ho74⟩, rfl, hk75, hM76⟩ := hq68
            have hz2 : Z69 217 0 = Z_ 217 0 := by rw [ho74.1 217 (by decide) (by decide)]
            refine w_if e57_166 (by omega) (fun (h77 : q72 ≠ 0) => ?_) (fun (h77 : q72 = 0) => ?_)
            ·
              obtain ⟨_, g9, hst9, hgL, hgg⟩ := ho74.2.2.resolve_left (fun h9 => by have := h9.1; omega)
              refine w_iinc (A1 := [some (.ref 1), some (.int (vz i1)), some (.long ((((y2 * q40)) + q64))), none, some (.int (vz q28)), some (.int (vz (x5 + 1))), some (.ref (57 + 4 * B.reverse.getD ((q28).toNat) 0))]) e57_172 rfl (by decide) rfl ?_
              refine w_x e57_175 (fun _ => rfl) ?_
              exact w_sub (A1 := [some (.ref 1), some (.int (vz i1)), some (.long ((((y2 * q40)) + q64))), none, some (.int (vz q28)), some (.int (vz (x5 + 1))), none]) (And.intro rfl (And.intro rfl (And.intro rfl (And.intro rfl (And.intro rfl trivial))))) ((ih) v67 Z69 al70 sk71 ((((y2 * q40)) + q64)) q28 (x5 + 1) hM76 hk75 (by omega) (by omega) ⟨hi0q.1, loF_tr hlo (loF_st ho74), g9, hgL, hgg⟩ (by omega))
            ·
              refine w_x e57_169 (fun _ => rfl) ?_
              refine w_ldL e57_178 (fun _ => rfl) rfl ?_
              exact w_rl e57_179 rfl ⟨Z69, al70, sk71, (((y2 * q40)) + q64), (loF_tr hlo (loF_st ho74)), rfl, hk75, hM76⟩
        ·
          refine w_x e57_66 (fun _ => rfl) ?_
          refine w_ldL e57_178 (fun _ => rfl) rfl ?_
          exact w_rl e57_179 rfl ⟨Z_, al_, sk_, y2, hlo, rfl, hk_, hM⟩
set_option maxRecDepth 100000 in
set_option maxHeartbeats 4000000 in
theorem k57 {Z : Nat → Nat → Int} {al : Nat → Nat → Int64} {ai : Nat → Nat → Int} {az : Nat → Nat → Int32} {mm : Nat → Option Nat} {sk : Nat} {v0 vh : vm_H} (hM : tk Z al ai az mm sk v0 vh) (hk : kn Z) {i1 : Int} (hi_1 : -2147483648 ≤ i1 ∧ i1 < 2147483648) {fr : Nat → Bool} {nv : Nat} {R : Nat → Po} {c : Nat} {B : List Nat} (hset : setK fr nv R c B Z al mm) (hn : 0 ≤ Z 2 0 ∧ Z 2 0 ≤ 8) (hv : ∀ j, 0 ≤ ai 5 j ∧ ai 5 j < 8) {fp : Po} (hn8 : nv ≤ 8) (hpv : pL Z al 230 fp) (hgp : gk nv fp) : vm_Rp 3 92 57 [.ref 1, .int (vz i1)] vh (fun r v1 => ∃ (Z1 : Nat → Nat → Int) (al1 : Nat → Nat → Int64) (sk1 : Nat) (q : Int64), loF Z Z1 al al1 ∧ r = some (.long q) ∧ kn Z1 ∧ tk Z1 al1 ai az mm sk1 v0 v1) := by
  refine w_in (m := 5) ?_
  show vm_Wp _ _ _ 0 [some (.ref 1), some (.int (vz i1)), none, none, none, none, none] [] _ _
  refine w_ldA e57_0 (fun _ => rfl) rfl ?_
  refine w_ldI e57_1 (fun _ => rfl) rfl ?_
  have e1 := tk_main hM
  refine w_cv e57_2 (by decide) rfl e1 rfl (Nat.le_of_ble_eq_true rfl) (Nat.le_of_ble_eq_true rfl) (Nat.le_of_ble_eq_true rfl) (by decide) (by decide) (k60 hM hk hi_1) (fun o2 v3 hq4 => ?_)
  obtain ⟨rfl, q5, h6, rfl⟩ := hq4
  have hb7 := h6
  refine w_if e57_5 (by omega) (fun (h8 : q5 ≠ 0) => ?_) (fun (h8 : q5 = 0) => ?_)
  ·
    obtain ⟨hR, hBq, hc⟩ := hset (by omega)
    have hB1 := hBq.1
    have hB2 := hBq.2.1
    refine w_ldA e57_10 (fun _ => rfl) rfl ?_
    refine w_get e57_11 e1 rfl ?_
    refine w_ldA e57_14 (fun _ => rfl) rfl ?_
    refine w_get e57_15 e1 rfl ?_
    have e9 := tk_poly hM (rfl : ty 234 = 1)
    have hk10 := hk 234 (rfl : ty 234 = 1)
    refine w_cv e57_18 (by decide) rfl e9 rfl (Nat.le_of_ble_eq_true rfl) (Nat.le_of_ble_eq_true rfl) (Nat.le_of_ble_eq_true rfl) (by decide) (by decide) (k19 hM hk (rfl : ty 234 = 1) (rfl : ty 230 = 1) (by decide)) (fun o11 v12 hq13 => ?_)
    obtain ⟨⟨al14, hc15, hM16⟩, rfl⟩ := hq13
    obtain ⟨Z18, hd19⟩ : ∃ z, z = u2 Z 234 0 (Z 230 0) := ⟨_, rfl⟩
    rw [← hd19] at hM16
    have hk17 := kn_u hk hd19 (fun _ => hk 230 (rfl : ty 230 = 1))
    have hz217 := congrFun (u2_oth (b := 217) hd19 (by decide)) 0
    refine w_x e57_21 (fun _ => rfl) ?_
    refine w_stL (j := 2) (A1 := [some (.ref 1), some (.int (vz i1)), some (.long ((Int64.ofNat 0))), none, none, none, none]) e57_22 (fun _ => rfl) (by decide) rfl ?_
    refine w_ldA e57_23 (fun _ => rfl) rfl ?_
    have e20 := tk_main hM16
    refine w_get e57_24 e20 rfl ?_
    have e21 := tk_tri hM16
    refine w_get e57_27 e21 rfl ?_
    refine w_kI e57_30 ?_
    refine w_isub e57_31 ?_
    refine w_stI (j := 4) (A1 := [some (.ref 1), some (.int (vz i1)), some (.long ((Int64.ofNat 0))), none, some (.int (vz ((Z18 217 0) - 1))), none, none]) e57_32 (fun _ => rfl) (by decide) rfl ?_
    refine w_kI e57_34 ?_
    refine w_stI (j := 5) (A1 := [some (.ref 1), some (.int (vz i1)), some (.long ((Int64.ofNat 0))), none, some (.int (vz ((Z18 217 0) - 1))), some (.int (vz 0)), none]) e57_35 (fun _ => rfl) (by decide) rfl ?_
    exact w_sub (A1 := [some (.ref 1), some (.int (vz i1)), some (.long ((Int64.ofNat 0))), none, some (.int (vz ((Z18 217 0) - 1))), some (.int (vz 0)), none]) (And.intro rfl (And.intro rfl (And.intro rfl (And.intro rfl (And.intro rfl trivial))))) (((k57_L (Z := Z) (al := al) (ai := ai) (az := az) (mm := mm) (sk := sk) (v0 := v0) (i1 := i1) (fr := fr) (nv := nv) (R := R) (c := c) (B := B) (fp := fp) hk hi_1 hset hn hv hn8 hpv hgp _)) v12 Z18 al14 sk ((Int64.ofNat 0)) ((Z18 217 0) - 1) 0 hM16 hk17 (by omega) (by omega) ⟨hset (by omega), loF_cp hc15 hd19, fp, pL_cp hpv (by rw [hd19, u2_s]) hc15, hgp⟩ (Nat.lt_succ_self _))
  ·
    refine w_x e57_8 (fun _ => rfl) ?_
    exact w_rl e57_9 rfl ⟨Z, al, sk, (Int64.ofNat 0), loF_0, rfl, hk, hM⟩
