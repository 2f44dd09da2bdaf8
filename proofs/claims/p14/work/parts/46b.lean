set_option maxRecDepth 100000 in
set_option maxHeartbeats 4000000 in
theorem r118_L {sc : Nat → Int} {ai : Nat → Nat → Int} {al : Nat → Nat → Int64} {az : Nat → Nat → Int32} {v0 vh : vm_H} (hM : tm sc ai al az v0 vh) (hK : tmok ai) {l_1 : Int64} : ∀ N : Nat, (∀ (y3 : Int64) (x5 : Int), (0 ≤ x5 ∧ x5 ≤ 8) → (y3 = vaF (al 245) l_1 (x5).toNat) → (((9 - x5) * 1000 + 999 : Int).toNat < N) → vm_Wp 1 22 118 5 [some (.ref 238), some (.long l_1), none, some (.long y3), none, some (.int (vz x5)), none] [] vh (vq_P 118 (fun r v1 => vh = v1 ∧ r = some (.long (vaF (al 245) l_1 8))))) ∧ (∀ (y3 : Int64) (x5 : Int) (x6 : Int), (0 ≤ x5 ∧ x5 < 8) → (0 ≤ x6 ∧ x6 ≤ pw l_1 x5) → (y3 = pwr (vaF (al 245) l_1 (x5).toNat) (al 245 (x5).toNat) (pw l_1 x5 - x6).toNat) → (((9 - x5) * 1000 + 500 + x6 : Int).toNat < N) → vm_Wp 1 22 118 20 [some (.ref 238), some (.long l_1), none, some (.long y3), none, some (.int (vz x5)), some (.int (vz x6))] [] vh (vq_P 118 (fun r v1 => vh = v1 ∧ r = some (.long (vaF (al 245) l_1 8))))) := by
  intro N
  induction N with
  | zero => exact ⟨by intros; omega, by intros; omega⟩
  | succ N ih =>
    refine ⟨?_, ?_⟩
    ·
      intro y3 x5 hx5 hi0q hN
      refine w_ldI e118_5 (fun _ => rfl) rfl ?_
      refine w_kB e118_7 rfl ?_
      refine w_ic e118_9 (by omega) (by omega) (fun (h1 : 8 ≤ x5) => ?_) (fun (h1 : x5 < 8) => ?_)
      ·
        refine w_ldL e118_47 (fun _ => rfl) rfl ?_
        exact w_rl e118_48 rfl ⟨rfl, by rw [hi0q, show (x5).toNat = 8 by omega]⟩
      ·
        refine w_ldL e118_12 (fun _ => rfl) rfl ?_
        refine w_ldI e118_13 (fun _ => rfl) rfl ?_
        refine w_cs e118_15 (by decide) (Nat.le_of_ble_eq_true rfl) (Nat.le_of_ble_eq_true rfl) (Nat.le_of_ble_eq_true rfl) (by decide) (by decide) (c78 (by omega)) (fun o2 v3 hq4 => ?_)
        obtain ⟨rfl, rfl⟩ := hq4
        have hp5 := pw_bd l_1 x5
        refine w_stI (j := 6) (A1 := [some (.ref 238), some (.long l_1), none, some (.long y3), none, some (.int (vz x5)), some (.int (vz (pw l_1 x5)))]) e118_18 (fun _ => rfl) (by decide) rfl ?_
        exact w_sub (A1 := [some (.ref 238), some (.long l_1), none, some (.long y3), none, some (.int (vz x5)), some (.int (vz (pw l_1 x5)))]) (And.intro rfl (And.intro rfl (And.intro rfl (And.intro rfl (And.intro rfl trivial))))) ((ih.2) y3 x5 (pw l_1 x5) (by omega) (by omega) (by rw [show (pw l_1 x5 - pw l_1 x5).toNat = 0 by omega]; exact hi0q) (by omega))
    ·
      intro y3 x5 x6 hx5 hx6 hi0q hN
      have hb6 := pw_bd l_1 x5
      refine w_ldI e118_20 (fun _ => rfl) rfl ?_
      refine w_if e118_22 (by omega) (fun (h6 : x6 ≤ 0) => ?_) (fun (h6 : 0 < x6) => ?_)
      ·
        refine w_iinc (A1 := [some (.ref 238), some (.long l_1), none, some (.long y3), none, some (.int (vz (x5 + 1))), some (.int (vz x6))]) e118_41 rfl (by decide) rfl ?_
        refine w_x e118_44 (fun _ => rfl) ?_
        exact w_sub (A1 := [some (.ref 238), some (.long l_1), none, some (.long y3), none, some (.int (vz (x5 + 1))), none]) (And.intro rfl (And.intro rfl (And.intro rfl (And.intro rfl trivial)))) ((ih.1) y3 (x5 + 1) (by omega) (va_s (k := pw l_1 x5) hx5.1 (by have h9 := hi0q; rw [show pw l_1 x5 - x6 = pw l_1 x5 by omega] at h9; exact h9) rfl) (by omega))
      ·
        refine w_ldL e118_25 (fun _ => rfl) rfl ?_
        refine w_ldA e118_26 (fun _ => rfl) rfl ?_
        have e7 := tm_o hM
        refine w_get e118_27 e7 rfl ?_
        refine w_ldI e118_30 (fun _ => rfl) rfl ?_
        have e8 := tm_l hM (a := 245) (n := 8) rfl
        refine w_lld e118_32 e8 (by omega) (by omega) (by decide) ?_
        refine w_x e118_33 (fun _ => rfl) ?_
        refine w_stL (j := 3) (A1 := [some (.ref 238), some (.long l_1), none, some (.long ((y3 * ((al 245 (x5).toNat))))), none, some (.int (vz x5)), some (.int (vz x6))]) e118_34 (fun _ => rfl) (by decide) rfl ?_
        refine w_iinc (A1 := [some (.ref 238), some (.long l_1), none, some (.long ((y3 * ((al 245 (x5).toNat))))), none, some (.int (vz x5)), some (.int (vz (x6 + (-1))))]) e118_35 rfl (by decide) rfl ?_
        refine w_x e118_38 (fun _ => rfl) ?_
        exact w_sub (A1 := [some (.ref 238), some (.long l_1), none, some (.long ((y3 * ((al 245 (x5).toNat))))), none, some (.int (vz x5)), some (.int (vz (x6 + (-1))))]) (And.intro rfl (And.intro rfl (And.intro rfl (And.intro rfl (And.intro rfl trivial))))) ((ih.2) ((y3 * ((al 245 (x5).toNat)))) x5 (x6 + (-1)) (by omega) (by omega) (pwr_d hi0q (by omega) (by omega)) (by omega))
set_option maxRecDepth 100000 in
set_option maxHeartbeats 4000000 in
theorem r118 {sc : Nat → Int} {ai : Nat → Nat → Int} {al : Nat → Nat → Int64} {az : Nat → Nat → Int32} {v0 vh : vm_H} (hM : tm sc ai al az v0 vh) (hK : tmok ai) {l_1 : Int64} : vm_Rp 1 22 118 [.ref 238, .long l_1] vh (fun r v1 => vh = v1 ∧ r = some (.long (vaF (al 245) l_1 8))) := by
  refine w_in (m := 4) ?_
  show vm_Wp _ _ _ 0 [some (.ref 238), some (.long l_1), none, none, none, none, none] [] _ _
  refine w_x e118_0 (fun _ => rfl) ?_
  refine w_stL (j := 3) (A1 := [some (.ref 238), some (.long l_1), none, some (.long ((Int64.ofNat 1))), none, none, none]) e118_1 (fun _ => rfl) (by decide) rfl ?_
  refine w_kI e118_2 ?_
  refine w_stI (j := 5) (A1 := [some (.ref 238), some (.long l_1), none, some (.long ((Int64.ofNat 1))), none, some (.int (vz 0)), none]) e118_3 (fun _ => rfl) (by decide) rfl ?_
  exact w_sub (A1 := [some (.ref 238), some (.long l_1), none, some (.long ((Int64.ofNat 1))), none, some (.int (vz 0)), none]) (And.intro rfl (And.intro rfl (And.intro rfl (And.intro rfl trivial)))) (((r118_L (sc := sc) (ai := ai) (al := al) (az := az) (v0 := v0) (vh := vh) (l_1 := l_1) hM hK _).1) ((Int64.ofNat 1)) 0 (by omega) rfl (Nat.lt_succ_self _))
set_option maxRecDepth 100000 in
set_option maxHeartbeats 4000000 in
theorem r119_L {sc : Nat → Int} {ai : Nat → Nat → Int} {al : Nat → Nat → Int64} {az : Nat → Nat → Int32} {v0 vh : vm_H} (hM : tm sc ai al az v0 vh) (hK : tmok ai) {i1 : Int} (hi_1 : 0 ≤ i1 ∧ i1 < 72) : ∀ N : Nat, (∀ (y2 : Int64) (x4 : Int), (0 ≤ x4 ∧ x4 ≤ ai 242 (i1).toNat) → (y2 = voF (al 245) (fun t => al 244 (60 * (i1).toNat + t)) (fun t => al 243 (60 * (i1).toNat + t)) (x4).toNat) → ((61 - x4 : Int).toNat < N) → vm_Wp 2 48 119 5 [some (.ref 238), some (.int (vz i1)), some (.long y2), none, some (.int (vz x4))] [] vh (vq_P 119 (fun r v1 => vh = v1 ∧ r = some (.long (voF (al 245) (fun t => al 244 (60 * (i1).toNat + t)) (fun t => al 243 (60 * (i1).toNat + t)) (ai 242 (i1).toNat).toNat))))) := by
  have hcg := hK.1 (i1).toNat
  intro N
  induction N with
  | zero => exact (by intros; omega)
  | succ N ih =>
    ·
      intro y2 x4 hx4 hi0q hN
      refine w_ldI e119_5 (fun _ => rfl) rfl ?_
      refine w_ldA e119_7 (fun _ => rfl) rfl ?_
      have e1 := tm_o hM
      refine w_get e119_8 e1 rfl ?_
      refine w_ldI e119_11 (fun _ => rfl) rfl ?_
      have e2 := tm_i hM (a := 242) (n := 72) rfl
      refine w_ald e119_12 e2 (by omega) (by omega) (by decide) ?_
      show vm_Wp _ _ _ 13 _ [.int (vz (ai 242 (i1).toNat)), .int (vz x4)] _ _
      have hk3 := hK.1 (i1).toNat
      refine w_ic e119_13 (by omega) (tm_r hM 242 (i1).toNat) (fun (h4 : ai 242 (i1).toNat ≤ x4) => ?_) (fun (h4 : x4 < ai 242 (i1).toNat) => ?_)
      ·
        refine w_ldL e119_54 (fun _ => rfl) rfl ?_
        exact w_rl e119_55 rfl ⟨rfl, by rw [hi0q, show x4 = ai 242 (i1).toNat by omega]⟩
      ·
        refine w_ldL e119_16 (fun _ => rfl) rfl ?_
        refine w_ldA e119_17 (fun _ => rfl) rfl ?_
        refine w_get e119_18 e1 rfl ?_
        refine w_kB e119_21 rfl ?_
        refine w_ldI e119_23 (fun _ => rfl) rfl ?_
        refine w_imul e119_24 ?_
        refine w_ldI e119_25 (fun _ => rfl) rfl ?_
        refine w_iadd e119_27 ?_
        have e5 := tm_l hM (a := 243) (n := 4320) rfl
        refine w_lld e119_28 e5 (by omega) (by omega) (by decide) ?_
        refine w_ldA e119_29 (fun _ => rfl) rfl ?_
        refine w_ldA e119_30 (fun _ => rfl) rfl ?_
        refine w_get e119_31 e1 rfl ?_
        refine w_kB e119_34 rfl ?_
        refine w_ldI e119_36 (fun _ => rfl) rfl ?_
        refine w_imul e119_37 ?_
        refine w_ldI e119_38 (fun _ => rfl) rfl ?_
        refine w_iadd e119_40 ?_
        have e6 := tm_l hM (a := 244) (n := 4320) rfl
        refine w_lld e119_41 e6 (by omega) (by omega) (by decide) ?_
        refine w_cv e119_42 (by decide) rfl e1 rfl (Nat.le_of_ble_eq_true rfl) (Nat.le_of_ble_eq_true rfl) (Nat.le_of_ble_eq_true rfl) (by decide) (by decide) (r118 hM hK) (fun o7 v8 hq9 => ?_)
        obtain ⟨rfl, rfl⟩ := hq9
        refine w_x e119_45 (fun _ => rfl) ?_
        refine w_x e119_46 (fun _ => rfl) ?_
        refine w_stL (j := 2) (A1 := [some (.ref 238), some (.int (vz i1)), some (.long ((y2 + ((((al 243 ((60 * i1) + x4).toNat)) * ((vaF (al 245) ((al 244 ((60 * i1) + x4).toNat)) 8))))))), none, some (.int (vz x4))]) e119_47 (fun _ => rfl) (by decide) rfl ?_
        refine w_iinc (A1 := [some (.ref 238), some (.int (vz i1)), some (.long ((y2 + ((((al 243 ((60 * i1) + x4).toNat)) * ((vaF (al 245) ((al 244 ((60 * i1) + x4).toNat)) 8))))))), none, some (.int (vz (x4 + 1)))]) e119_48 rfl (by decide) rfl ?_
        refine w_x e119_51 (fun _ => rfl) ?_
        exact w_sub (A1 := [some (.ref 238), some (.int (vz i1)), some (.long ((y2 + ((((al 243 ((60 * i1) + x4).toNat)) * ((vaF (al 245) ((al 244 ((60 * i1) + x4).toNat)) 8))))))), none, some (.int (vz (x4 + 1)))]) (And.intro rfl (And.intro rfl (And.intro rfl (And.intro rfl trivial)))) ((ih) ((y2 + ((((al 243 ((60 * i1) + x4).toNat)) * ((vaF (al 245) ((al 244 ((60 * i1) + x4).toNat)) 8)))))) (x4 + 1) (by omega) (vo_s hx4.1 hi0q (by rw [ld_ix hi_1.1 hx4.1])) (by omega))
set_option maxRecDepth 100000 in
set_option maxHeartbeats 4000000 in
theorem r119 {sc : Nat → Int} {ai : Nat → Nat → Int} {al : Nat → Nat → Int64} {az : Nat → Nat → Int32} {v0 vh : vm_H} (hM : tm sc ai al az v0 vh) (hK : tmok ai) {i1 : Int} (hi_1 : 0 ≤ i1 ∧ i1 < 72) : vm_Rp 2 48 119 [.ref 238, .int (vz i1)] vh (fun r v1 => vh = v1 ∧ r = some (.long (voF (al 245) (fun t => al 244 (60 * (i1).toNat + t)) (fun t => al 243 (60 * (i1).toNat + t)) (ai 242 (i1).toNat).toNat))) := by
  have hcg := hK.1 (i1).toNat
  refine w_in (m := 3) ?_
  show vm_Wp _ _ _ 0 [some (.ref 238), some (.int (vz i1)), none, none, none] [] _ _
  refine w_x e119_0 (fun _ => rfl) ?_
  refine w_stL (j := 2) (A1 := [some (.ref 238), some (.int (vz i1)), some (.long ((Int64.ofNat 0))), none, none]) e119_1 (fun _ => rfl) (by decide) rfl ?_
  refine w_kI e119_2 ?_
  refine w_stI (j := 4) (A1 := [some (.ref 238), some (.int (vz i1)), some (.long ((Int64.ofNat 0))), none, some (.int (vz 0))]) e119_3 (fun _ => rfl) (by decide) rfl ?_
  exact w_sub (A1 := [some (.ref 238), some (.int (vz i1)), some (.long ((Int64.ofNat 0))), none, some (.int (vz 0))]) (And.intro rfl (And.intro rfl (And.intro rfl (And.intro rfl trivial)))) (((r119_L (sc := sc) (ai := ai) (al := al) (az := az) (v0 := v0) (vh := vh) (i1 := i1) hM hK hi_1 _)) ((Int64.ofNat 0)) 0 (by omega) rfl (Nat.lt_succ_self _))
