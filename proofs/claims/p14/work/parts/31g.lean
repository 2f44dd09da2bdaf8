set_option maxRecDepth 100000 in
set_option maxHeartbeats 4000000 in
theorem k75_L {Z : Nat → Nat → Int} {al : Nat → Nat → Int64} {ai : Nat → Nat → Int} {az : Nat → Nat → Int32} {mm : Nat → Option Nat} {sk : Nat} {v0 vh : vm_H} (hM : tk Z al ai az mm sk v0 vh) (hk : kn Z) {l_0 : Int64} {l_1 : Int64} (hA : 0 ≤ l_0.toInt ∧ l_0.toInt ≤ 67108864) (hB : 0 ≤ l_1.toInt ∧ l_1.toInt ≤ 67108864) : ∀ N : Nat, (∀ (y4 : Int64) (y6 : Int64) (x8 : Int), (0 ≤ x8 ∧ x8 ≤ 128) → (gI l_0.toInt.natAbs l_1.toInt.natAbs y4 y6 x8) → ((128 - x8 : Int).toNat < N) → vm_Wp 0 0 75 9 [some (.long l_0), none, some (.long l_1), none, some (.long y4), none, some (.long y6), none, some (.int (vz x8)), none, none] [] vh (vq_P 75 (fun r v1 => vh = v1 ∧ ∃ g : Int64, g.toInt = ((Nat.gcd l_0.toInt.natAbs l_1.toInt.natAbs : Nat) : Int) ∧ r = some (.long g)))) := by
  intro N
  induction N with
  | zero => exact (by intros; omega)
  | succ N ih =>
    ·
      intro y4 y6 x8 hx8 hi0 hN
      refine w_ldI e75_9 (fun _ => rfl) rfl ?_
      refine w_kS e75_11 rfl ?_
      refine w_ic e75_14 (by omega) (by omega) (fun (h1 : 128 ≤ x8) => ?_) (fun (h1 : x8 < 128) => ?_)
      ·
        refine w_ldL e75_45 (fun _ => rfl) rfl ?_
        exact w_rl e75_47 rfl ⟨rfl, y4, gI_e hi0 (Or.inl (by omega)), rfl⟩
      ·
        refine w_ldL e75_17 (fun _ => rfl) rfl ?_
        refine w_x e75_19 (fun _ => rfl) ?_
        refine w_lcmp e75_20 (fun q2 (h3 : -1 ≤ q2 ∧ q2 ≤ 1) h4 h5 => ?_)
        refine w_if e75_21 (by omega) (fun (h6 : q2 = 0) => ?_) (fun (h6 : q2 ≠ 0) => ?_)
        ·
          refine w_ldL e75_45 (fun _ => rfl) rfl ?_
          exact w_rl e75_47 rfl ⟨rfl, y4, gI_e hi0 (Or.inr (h4.mp h6)), rfl⟩
        ·
          refine w_ldL e75_24 (fun _ => rfl) rfl ?_
          refine w_ldL e75_26 (fun _ => rfl) rfl ?_
          refine w_rem e75_28 (fun e9 => h6 (h4.mpr e9)) ?_
          refine w_stL (j := 9) (A1 := [some (.long l_0), none, some (.long l_1), none, some (.long y4), none, some (.long y6), none, some (.int (vz x8)), some (.long ((y4 - y4 / y6 * y6))), none]) e75_29 (fun _ => rfl) (by decide) rfl ?_
          refine w_ldL e75_31 (fun _ => rfl) rfl ?_
          refine w_stL (j := 4) (A1 := [some (.long l_0), none, some (.long l_1), none, some (.long y6), none, some (.long y6), none, some (.int (vz x8)), some (.long ((y4 - y4 / y6 * y6))), none]) e75_33 (fun _ => rfl) (by decide) rfl ?_
          refine w_ldL e75_35 (fun _ => rfl) rfl ?_
          refine w_stL (j := 6) (A1 := [some (.long l_0), none, some (.long l_1), none, some (.long y6), none, some (.long ((y4 - y4 / y6 * y6))), none, some (.int (vz x8)), some (.long ((y4 - y4 / y6 * y6))), none]) e75_37 (fun _ => rfl) (by decide) rfl ?_
          refine w_iinc (A1 := [some (.long l_0), none, some (.long l_1), none, some (.long y6), none, some (.long ((y4 - y4 / y6 * y6))), none, some (.int (vz (x8 + 1))), some (.long ((y4 - y4 / y6 * y6))), none]) e75_39 rfl (by decide) rfl ?_
          refine w_x e75_42 (fun _ => rfl) ?_
          exact w_sub (A1 := [some (.long l_0), none, some (.long l_1), none, some (.long y6), none, some (.long ((y4 - y4 / y6 * y6))), none, some (.int (vz (x8 + 1))), none, none]) (And.intro rfl (And.intro rfl (And.intro rfl (And.intro rfl (And.intro rfl trivial))))) ((ih) y6 ((y4 - y4 / y6 * y6)) (x8 + 1) (by omega) (gI_s hi0 hx8.1 (fun e9 => h6 (h4.mpr e9)) rfl) (by omega))
set_option maxRecDepth 100000 in
set_option maxHeartbeats 4000000 in
theorem k75 {Z : Nat → Nat → Int} {al : Nat → Nat → Int64} {ai : Nat → Nat → Int} {az : Nat → Nat → Int32} {mm : Nat → Option Nat} {sk : Nat} {v0 vh : vm_H} (hM : tk Z al ai az mm sk v0 vh) (hk : kn Z) {l_0 : Int64} {l_1 : Int64} (hA : 0 ≤ l_0.toInt ∧ l_0.toInt ≤ 67108864) (hB : 0 ≤ l_1.toInt ∧ l_1.toInt ≤ 67108864) : vm_Rp 0 0 75 [.long l_0, .long l_1] vh (fun r v1 => vh = v1 ∧ ∃ g : Int64, g.toInt = ((Nat.gcd l_0.toInt.natAbs l_1.toInt.natAbs : Nat) : Int) ∧ r = some (.long g)) := by
  refine w_in (m := 7) ?_
  show vm_Wp _ _ _ 0 [some (.long l_0), none, some (.long l_1), none, none, none, none, none, none, none, none] [] _ _
  refine w_ldL e75_0 (fun _ => rfl) rfl ?_
  refine w_stL (j := 4) (A1 := [some (.long l_0), none, some (.long l_1), none, some (.long l_0), none, none, none, none, none, none]) e75_1 (fun _ => rfl) (by decide) rfl ?_
  refine w_ldL e75_3 (fun _ => rfl) rfl ?_
  refine w_stL (j := 6) (A1 := [some (.long l_0), none, some (.long l_1), none, some (.long l_0), none, some (.long l_1), none, none, none, none]) e75_4 (fun _ => rfl) (by decide) rfl ?_
  refine w_kI e75_6 ?_
  refine w_stI (j := 8) (A1 := [some (.long l_0), none, some (.long l_1), none, some (.long l_0), none, some (.long l_1), none, some (.int (vz 0)), none, none]) e75_7 (fun _ => rfl) (by decide) rfl ?_
  exact w_sub (A1 := [some (.long l_0), none, some (.long l_1), none, some (.long l_0), none, some (.long l_1), none, some (.int (vz 0)), none, none]) (And.intro rfl (And.intro rfl (And.intro rfl (And.intro rfl (And.intro rfl trivial))))) (((k75_L (Z := Z) (al := al) (ai := ai) (az := az) (mm := mm) (sk := sk) (v0 := v0) (vh := vh) (l_0 := l_0) (l_1 := l_1) hM hk hA hB _)) l_0 l_1 0 (by omega) (gI_0 hA hB) (Nat.lt_succ_self _))
set_option maxRecDepth 100000 in
set_option maxHeartbeats 4000000 in
theorem k26_L {Z : Nat → Nat → Int} {al : Nat → Nat → Int64} {ai : Nat → Nat → Int} {az : Nat → Nat → Int32} {mm : Nat → Option Nat} {sk : Nat} {v0 : vm_H} (hk : kn Z) {a0 : Nat} (ha_0 : ty a0 = 1) (hg : ∀ t : Nat, (t : Int) < Z a0 0 → gl (al (a0 + 2) t)) : ∀ N : Nat, (∀ (vh : vm_H) (y1 : Int64) (x3 : Int), (tk Z al ai az mm sk v0 vh) → (0 ≤ x3 ∧ x3 ≤ Z a0 0) → (y1.toInt = (gck (al (a0 + 2)) (x3).toNat : Int)) → (0 < Z a0 0) → ((200 - x3 : Int).toNat < N) → vm_Wp 1 30 26 12 [some (.ref a0), some (.long y1), none, some (.int (vz x3))] [] vh (vq_P 26 (fun r v1 => (∃ al1 : Nat → Nat → Int64, pmK al al1 a0 (Z a0 0) ∧ tk Z al1 ai az mm sk v0 v1) ∧ r = none))) ∧ (∀ (vh : vm_H) (al_ : Nat → Nat → Int64) (y1 : Int64) (x3 : Int), (tk Z al_ ai az mm sk v0 vh) → (0 ≤ x3 ∧ x3 ≤ Z a0 0) → (y1.toInt = sgk (al (a0 + 2)) (Z a0 0).toNat) → (pmI al al_ a0 y1 x3) → (y1.toInt ≠ 0) → ((60 - x3 : Int).toNat < N) → vm_Wp 1 30 26 69 [some (.ref a0), some (.long y1), none, some (.int (vz x3))] [] vh (vq_P 26 (fun r v1 => (∃ al1 : Nat → Nat → Int64, pmK al al1 a0 (Z a0 0) ∧ tk Z al1 ai az mm sk v0 v1) ∧ r = none))) := by
  have hk0 := hk a0 ha_0
  intro N
  induction N with
  | zero => exact ⟨by intros; omega, by intros; omega⟩
  | succ N ih =>
    refine ⟨?_, ?_⟩
    ·
      intro vh y1 x3 hM hx3 hi0 hi1 hN
      have hk0 := hk a0 ha_0
      have hgb := gck_bd (F := al (a0 + 2)) (x3).toNat (fun t ht => hg t (by omega))
      have hgb2 := hgb.1
      refine w_ldI e26_12 (fun _ => rfl) rfl ?_
      refine w_ldA e26_13 (fun _ => rfl) rfl ?_
      have e4 := tk_poly hM ha_0
      have hk5 := hk a0 ha_0
      refine w_get e26_14 e4 rfl ?_
      refine w_ic e26_17 (by omega) (tk_r hM a0 0) (fun (h6 : Z a0 0 ≤ x3) => ?_) (fun (h6 : x3 < Z a0 0) => ?_)
      ·
        have hx3e : x3 = Z a0 0 := by omega
        rw [hx3e] at hi0 hgb2
        have hgb3 := hgb.2 (by omega)
        rw [hx3e] at hgb3
        refine w_ldA e26_40 (fun _ => rfl) rfl ?_
        refine w_get e26_41 e4 rfl ?_
        refine w_kI e26_44 ?_
        have e7 := tk_l60 hM (ty_p ha_0).2
        refine w_lld e26_45 e7 (by omega) (by omega) (by decide) ?_
        refine w_x e26_46 (fun _ => rfl) ?_
        refine w_lcmp e26_47 (fun q8 (h9 : -1 ≤ q8 ∧ q8 ≤ 1) h10 h11 => ?_)
        have hc12 : (q8 = 0 ↔ (((al (a0 + 2)) 0)).toInt = ((Int64.ofNat 0)).toInt) ∧ (q8 < 0 ↔ (((al (a0 + 2)) 0)).toInt < ((Int64.ofNat 0)).toInt) := lc_i h10 h11
        have hc13 : (Int64.ofNat 0).toInt = 0 := rfl
        refine w_if e26_48 (by omega) (fun (h14 : 0 ≤ q8) => ?_) (fun (h14 : q8 < 0) => ?_)
        ·
          refine w_ldL e26_54 (fun _ => rfl) rfl ?_
          refine w_x e26_55 (fun _ => rfl) ?_
          refine w_lcmp e26_56 (fun q15 (h16 : -1 ≤ q15 ∧ q15 ≤ 1) h17 h18 => ?_)
          have hc19 : (q15 = 0 ↔ y1.toInt = ((Int64.ofNat 0)).toInt) ∧ (q15 < 0 ↔ y1.toInt < ((Int64.ofNat 0)).toInt) := lc_i h17 h18
          have hc20 : (Int64.ofNat 0).toInt = 0 := rfl
          refine w_if e26_57 (by omega) (fun (h21 : q15 = 0) => ?_) (fun (h21 : q15 ≠ 0) => ?_)
          ·
            exact w_rv e26_66 rfl ⟨⟨al, pmK_1 (Or.inr (by unfold sgk; split <;> omega)), hM⟩, rfl⟩
          ·
            refine w_ldL e26_60 (fun _ => rfl) rfl ?_
            refine w_x e26_61 (fun _ => rfl) ?_
            refine w_lcmp e26_62 (fun q22 (h23 : -1 ≤ q22 ∧ q22 ≤ 1) h24 h25 => ?_)
            have hc26 : (q22 = 0 ↔ y1.toInt = ((Int64.ofNat 1)).toInt) ∧ (q22 < 0 ↔ y1.toInt < ((Int64.ofNat 1)).toInt) := lc_i h24 h25
            have hc27 : (Int64.ofNat 1).toInt = 1 := rfl
            refine w_if e26_63 (by omega) (fun (h28 : q22 ≠ 0) => ?_) (fun (h28 : q22 = 0) => ?_)
            ·
              refine w_kI e26_67 ?_
              refine w_stI (j := 3) (A1 := [some (.ref a0), some (.long y1), none, some (.int (vz 0))]) e26_68 (fun _ => rfl) (by decide) rfl ?_
              exact w_sub (A1 := [some (.ref a0), some (.long y1), none, some (.int (vz 0))]) (And.intro rfl (And.intro rfl (And.intro rfl trivial))) ((ih.2) vh al y1 0 hM (by omega) (by unfold sgk; split <;> omega) pmI_0 (by omega) (by omega))
            ·
              exact w_rv e26_66 rfl ⟨⟨al, pmK_1 (Or.inr (by unfold sgk; split <;> omega)), hM⟩, rfl⟩
        ·
          refine w_ldL e26_51 (fun _ => rfl) rfl ?_
          refine w_x e26_52 (fun _ => rfl) ?_
          have hng := ngi (y := y1) (by omega)
          refine w_stL (j := 1) (A1 := [some (.ref a0), some (.long ((-y1))), none, some (.int (vz x3))]) e26_53 (fun _ => rfl) (by decide) rfl ?_
          refine w_ldL e26_54 (fun _ => rfl) rfl ?_
          refine w_x e26_55 (fun _ => rfl) ?_
          refine w_lcmp e26_56 (fun q29 (h30 : -1 ≤ q29 ∧ q29 ≤ 1) h31 h32 => ?_)
          have hc33 : (q29 = 0 ↔ ((-y1)).toInt = ((Int64.ofNat 0)).toInt) ∧ (q29 < 0 ↔ ((-y1)).toInt < ((Int64.ofNat 0)).toInt) := lc_i h31 h32
          have hc34 : (Int64.ofNat 0).toInt = 0 := rfl
          refine w_if e26_57 (by omega) (fun (h35 : q29 = 0) => ?_) (fun (h35 : q29 ≠ 0) => ?_)
          ·
            exact w_rv e26_66 rfl ⟨⟨al, pmK_1 (Or.inr (by unfold sgk; split <;> omega)), hM⟩, rfl⟩
          ·
            refine w_ldL e26_60 (fun _ => rfl) rfl ?_
            refine w_x e26_61 (fun _ => rfl) ?_
            refine w_lcmp e26_62 (fun q36 (h37 : -1 ≤ q36 ∧ q36 ≤ 1) h38 h39 => ?_)
            have hc40 : (q36 = 0 ↔ ((-y1)).toInt = ((Int64.ofNat 1)).toInt) ∧ (q36 < 0 ↔ ((-y1)).toInt < ((Int64.ofNat 1)).toInt) := lc_i h38 h39
            have hc41 : (Int64.ofNat 1).toInt = 1 := rfl
            refine w_if e26_63 (by omega) (fun (h42 : q36 ≠ 0) => ?_) (fun (h42 : q36 = 0) => ?_)
            ·
              refine w_kI e26_67 ?_
              refine w_stI (j := 3) (A1 := [some (.ref a0), some (.long ((-y1))), none, some (.int (vz 0))]) e26_68 (fun _ => rfl) (by decide) rfl ?_
              exact w_sub (A1 := [some (.ref a0), some (.long ((-y1))), none, some (.int (vz 0))]) (And.intro rfl (And.intro rfl (And.intro rfl trivial))) ((ih.2) vh al ((-y1)) 0 hM (by omega) (by unfold sgk; split <;> omega) pmI_0 (by omega) (by omega))
            ·
              exact w_rv e26_66 rfl ⟨⟨al, pmK_1 (Or.inr (by unfold sgk; split <;> omega)), hM⟩, rfl⟩
      ·
        refine w_ldA e26_20 (fun _ => rfl) rfl ?_
        refine w_get e26_21 e4 rfl ?_
        refine w_ldI e26_24 (fun _ => rfl) rfl ?_
        have e43 := tk_l60 hM (ty_p ha_0).2
        refine w_lld e26_25 e43 (by omega) (by omega) (by decide) ?_
        refine w_labX e26_26 (Nat.le_of_ble_eq_true rfl) (by decide) (by decide) ?_
        refine w_ldL e26_29 (fun _ => rfl) rfl ?_
        refine w_cs e26_30 (by decide) (Nat.le_of_ble_eq_true rfl) (Nat.le_of_ble_eq_true rfl) (Nat.le_of_ble_eq_true rfl) (by decide) (by decide) (k75 hM hk (lab_b (hg _ (by omega))) (by omega)) (fun o44 v45 hq46 => ?_)
        obtain ⟨rfl, g47, hg48, rfl⟩ := hq46
        refine w_stL (j := 1) (A1 := [some (.ref a0), some (.long g47), none, some (.int (vz x3))]) e26_33 (fun _ => rfl) (by decide) rfl ?_
        refine w_iinc (A1 := [some (.ref a0), some (.long g47), none, some (.int (vz (x3 + 1)))]) e26_34 rfl (by decide) rfl ?_
        refine w_x e26_37 (fun _ => rfl) ?_
        exact w_sub (A1 := [some (.ref a0), some (.long g47), none, some (.int (vz (x3 + 1)))]) (And.intro rfl (And.intro rfl (And.intro rfl trivial))) ((ih.1) vh g47 (x3 + 1) hM (by omega) (gck_s hx3.1 hi0 (hg _ (by omega)) hg48) (by omega) (by omega))
    ·
      intro vh al_ y1 x3 hM hx3 hi0 hi1 hi2 hN
      have hk0 := hk a0 ha_0
      refine w_ldI e26_69 (fun _ => rfl) rfl ?_
      refine w_ldA e26_70 (fun _ => rfl) rfl ?_
      have e49 := tk_poly hM ha_0
      have hk50 := hk a0 ha_0
      refine w_get e26_71 e49 rfl ?_
      refine w_ic e26_74 (by omega) (tk_r hM a0 0) (fun (h51 : Z a0 0 ≤ x3) => ?_) (fun (h51 : x3 < Z a0 0) => ?_)
      ·
        exact w_rv e26_93 rfl ⟨⟨al_, pmK_e hi1 (by omega) hi0, hM⟩, rfl⟩
      ·
        refine w_ldA e26_77 (fun _ => rfl) rfl ?_
        refine w_get e26_78 e49 rfl ?_
        refine w_ldI e26_81 (fun _ => rfl) rfl ?_
        refine w_x e26_82 (fun _ => rfl) ?_
        have e52 := tk_l60 hM (ty_p ha_0).2
        refine w_lld e26_83 e52 (by omega) (by omega) (by decide) ?_
        refine w_ldL e26_84 (fun _ => rfl) rfl ?_
        refine w_div e26_85 (fun e9 => hi2 (by rw [e9]; rfl)) ?_
        refine w_lst e26_86 e52 (by omega) (by omega) (by decide) (fun v55 b53 h54 => ?_)
        obtain ⟨al56, hd57, hM58⟩ : ∃ z, z = uA al_ (a0 + 2) (vp_updL (al_ (a0 + 2)) (x3).toNat ((((al_ (a0 + 2)) (x3).toNat) / y1))) ∧ tk Z z ai az mm sk v0 v55 := ⟨_, rfl, tk_A hM (ty_p ha_0).2 b53 h54⟩
        refine w_iinc (A1 := [some (.ref a0), some (.long y1), none, some (.int (vz (x3 + 1)))]) e26_87 rfl (by decide) rfl ?_
        refine w_x e26_90 (fun _ => rfl) ?_
        exact w_sub (A1 := [some (.ref a0), some (.long y1), none, some (.int (vz (x3 + 1)))]) (And.intro rfl (And.intro rfl (And.intro rfl trivial))) ((ih.2) v55 al56 y1 (x3 + 1) hM58 (by omega) hi0 (pmI_s hi1 hx3.1 hd57) hi2 (by omega))
set_option maxRecDepth 100000 in
set_option maxHeartbeats 4000000 in
theorem k26 {Z : Nat → Nat → Int} {al : Nat → Nat → Int64} {ai : Nat → Nat → Int} {az : Nat → Nat → Int32} {mm : Nat → Option Nat} {sk : Nat} {v0 vh : vm_H} (hM : tk Z al ai az mm sk v0 vh) (hk : kn Z) {a0 : Nat} (ha_0 : ty a0 = 1) (hg : ∀ t : Nat, (t : Int) < Z a0 0 → gl (al (a0 + 2) t)) : vm_Rp 1 30 26 [.ref a0] vh (fun r v1 => (∃ al1 : Nat → Nat → Int64, pmK al al1 a0 (Z a0 0) ∧ tk Z al1 ai az mm sk v0 v1) ∧ r = none) := by
  have hk0 := hk a0 ha_0
  refine w_in (m := 3) ?_
  show vm_Wp _ _ _ 0 [some (.ref a0), none, none, none] [] _ _
  refine w_ldA e26_0 (fun _ => rfl) rfl ?_
  have e1 := tk_poly hM ha_0
  have hk2 := hk a0 ha_0
  refine w_get e26_1 e1 rfl ?_
  refine w_if e26_4 (tk_r hM a0 0) (fun (h3 : Z a0 0 ≠ 0) => ?_) (fun (h3 : Z a0 0 = 0) => ?_)
  ·
    refine w_x e26_8 (fun _ => rfl) ?_
    refine w_stL (j := 1) (A1 := [some (.ref a0), some (.long ((Int64.ofNat 0))), none, none]) e26_9 (fun _ => rfl) (by decide) rfl ?_
    refine w_kI e26_10 ?_
    refine w_stI (j := 3) (A1 := [some (.ref a0), some (.long ((Int64.ofNat 0))), none, some (.int (vz 0))]) e26_11 (fun _ => rfl) (by decide) rfl ?_
    exact w_sub (A1 := [some (.ref a0), some (.long ((Int64.ofNat 0))), none, some (.int (vz 0))]) (And.intro rfl (And.intro rfl (And.intro rfl trivial))) (((k26_L (Z := Z) (al := al) (ai := ai) (az := az) (mm := mm) (sk := sk) (v0 := v0) (a0 := a0) hk ha_0 hg _).1) vh ((Int64.ofNat 0)) 0 hM (by omega) rfl (by omega) (Nat.lt_succ_self _))
  ·
    exact w_rv e26_7 rfl ⟨⟨al, pmK_1 (Or.inl (by omega)), hM⟩, rfl⟩
