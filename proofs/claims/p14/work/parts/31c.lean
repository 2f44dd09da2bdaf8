set_option maxRecDepth 100000 in
set_option maxHeartbeats 4000000 in
theorem k22_L {Z : Nat → Nat → Int} {al : Nat → Nat → Int64} {ai : Nat → Nat → Int} {az : Nat → Nat → Int32} {mm : Nat → Option Nat} {sk : Nat} {v0 vh : vm_H} (hM : tk Z al ai az mm sk v0 vh) (hk : kn Z) {a0 : Nat} (ha_0 : ty a0 = 1) {i1 : Int} (hi_1 : -2147483648 ≤ i1 ∧ i1 < 2147483648) : ∀ N : Nat, (∀ (x2 : Int) (x3 : Int), (-2147483648 ≤ x2 ∧ x2 < 2147483648) → (0 ≤ x3 ∧ x3 ≤ Z a0 0) → (x2 = dgk (al (a0 + 1)) i1 (x3).toNat) → ((60 - x3 : Int).toNat < N) → vm_Wp 1 30 22 4 [some (.ref a0), some (.int (vz i1)), some (.int (vz x2)), some (.int (vz x3))] [] vh (vq_P 22 (fun r v1 => vh = v1 ∧ r = some (.int (vz (dgk (al (a0 + 1)) i1 (Z a0 0).toNat)))))) := by
  have hk0 := hk a0 ha_0
  intro N
  induction N with
  | zero => exact (by intros; omega)
  | succ N ih =>
    ·
      intro x2 x3 hx2 hx3 hi0 hN
      have hb9 := dgk_bd (al (a0 + 1)) i1 (x3).toNat
      refine w_ldI e22_4 (fun _ => rfl) rfl ?_
      refine w_ldA e22_5 (fun _ => rfl) rfl ?_
      have e1 := tk_poly hM ha_0
      have hk2 := hk a0 ha_0
      refine w_get e22_6 e1 rfl ?_
      refine w_ic e22_9 (by omega) (tk_r hM a0 0) (fun (h3 : Z a0 0 ≤ x3) => ?_) (fun (h3 : x3 < Z a0 0) => ?_)
      ·
        refine w_ldI e22_33 (fun _ => rfl) rfl ?_
        exact w_ri e22_34 rfl ⟨rfl, by rw [hi0, show x3 = Z a0 0 by omega]⟩
      ·
        refine w_ldI e22_12 (fun _ => rfl) rfl ?_
        refine w_ldA e22_13 (fun _ => rfl) rfl ?_
        refine w_get e22_14 e1 rfl ?_
        refine w_ldI e22_17 (fun _ => rfl) rfl ?_
        have e4 := tk_l60 hM (ty_p ha_0).1
        refine w_lld e22_18 e4 (by omega) (by omega) (by decide) ?_
        refine w_ldI e22_19 (fun _ => rfl) rfl ?_
        refine w_cs e22_20 (by decide) (Nat.le_of_ble_eq_true rfl) (Nat.le_of_ble_eq_true rfl) (Nat.le_of_ble_eq_true rfl) (by decide) (by decide) (c73x) (fun o5 v6 hq7 => ?_)
        obtain ⟨rfl, rfl⟩ := hq7
        have hp8 := pw_bd (((al (a0 + 1)) (x3).toNat)) i1
        refine w_max e22_23 hx2 (by omega) (Nat.le_of_ble_eq_true rfl) (by decide) (by decide) (fun q9 h10 => ?_)
        refine w_stI (j := 2) (A1 := [some (.ref a0), some (.int (vz i1)), some (.int (vz q9)), some (.int (vz x3))]) e22_26 (fun _ => rfl) (by decide) rfl ?_
        refine w_iinc (A1 := [some (.ref a0), some (.int (vz i1)), some (.int (vz q9)), some (.int (vz (x3 + 1)))]) e22_27 rfl (by decide) rfl ?_
        refine w_x e22_30 (fun _ => rfl) ?_
        exact w_sub (A1 := [some (.ref a0), some (.int (vz i1)), some (.int (vz q9)), some (.int (vz (x3 + 1)))]) (And.intro rfl (And.intro rfl (And.intro rfl (And.intro rfl trivial)))) ((ih) q9 (x3 + 1) (by omega) (by omega) (dgk_s hx3.1 hi0 (by omega)) (by omega))
set_option maxRecDepth 100000 in
set_option maxHeartbeats 4000000 in
theorem k22 {Z : Nat → Nat → Int} {al : Nat → Nat → Int64} {ai : Nat → Nat → Int} {az : Nat → Nat → Int32} {mm : Nat → Option Nat} {sk : Nat} {v0 vh : vm_H} (hM : tk Z al ai az mm sk v0 vh) (hk : kn Z) {a0 : Nat} (ha_0 : ty a0 = 1) {i1 : Int} (hi_1 : -2147483648 ≤ i1 ∧ i1 < 2147483648) : vm_Rp 1 30 22 [.ref a0, .int (vz i1)] vh (fun r v1 => vh = v1 ∧ r = some (.int (vz (dgk (al (a0 + 1)) i1 (Z a0 0).toNat)))) := by
  have hk0 := hk a0 ha_0
  refine w_in (m := 2) ?_
  show vm_Wp _ _ _ 0 [some (.ref a0), some (.int (vz i1)), none, none] [] _ _
  refine w_kI e22_0 ?_
  refine w_stI (j := 2) (A1 := [some (.ref a0), some (.int (vz i1)), some (.int (vz 0)), none]) e22_1 (fun _ => rfl) (by decide) rfl ?_
  refine w_kI e22_2 ?_
  refine w_stI (j := 3) (A1 := [some (.ref a0), some (.int (vz i1)), some (.int (vz 0)), some (.int (vz 0))]) e22_3 (fun _ => rfl) (by decide) rfl ?_
  exact w_sub (A1 := [some (.ref a0), some (.int (vz i1)), some (.int (vz 0)), some (.int (vz 0))]) (And.intro rfl (And.intro rfl (And.intro rfl (And.intro rfl trivial)))) (((k22_L (Z := Z) (al := al) (ai := ai) (az := az) (mm := mm) (sk := sk) (v0 := v0) (vh := vh) (a0 := a0) (i1 := i1) hM hk ha_0 hi_1 _)) 0 0 (by omega) (by omega) rfl (Nat.lt_succ_self _))
