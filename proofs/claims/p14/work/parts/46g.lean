set_option maxRecDepth 100000 in
set_option maxHeartbeats 4000000 in
theorem r116_L {sc : Nat → Int} {ai : Nat → Nat → Int} {al : Nat → Nat → Int64} {az : Nat → Nat → Int32} {v0 : vm_H} (hK : tmok ai) {i1 : Int} (hi_1 : -2147483648 ≤ i1 ∧ i1 < 2147483648) {i2 : Int} (hi_2 : -2147483648 ≤ i2 ∧ i2 < 2147483648) {i3 : Int} (hi_3 : -2147483648 ≤ i3 ∧ i3 < 2147483648) {fr : Nat → Bool} {V : Nat → Nat} {nv : Nat} (hv : sc 1 = (nv : Int)) (hvr : vR ai = V) (hfr : frR az ai = fr) (hV : pmV V nv) {m : Nat} {S : Nat → Po × Nat × Nat} (hms : msQ fr V nv sc ai al m S) (hp4 : 0 ≤ sc 4 ∧ sc 4 ≤ 16) (hm11 : 0 ≤ sc 11 ∧ sc 11 ≤ 8) : ∀ N : Nat, (∀ (vh : vm_H) (sc_ : Nat → Int) (ai_ : Nat → Nat → Int) (al_ : Nat → Nat → Int64) (x4 : Int) (x5 : Int) (x6 : Int), (tm sc_ ai_ al_ az v0 vh) → (tmok ai_) → (0 ≤ x4 ∧ x4 < 72) → (-2147483648 ≤ x5 ∧ x5 < 2147483648) → (0 ≤ x6 ∧ x6 ≤ 8) → (∃ (q : Int), q = x4 ∧ slO V nv S (u1 sc 0 0) ai ai_ al al_ i1 i2 q ∧ (0 ≤ q ∧ 0 ≤ i3 ∧ i3 < ai_ 242 q.toNat)) → (vz x5 = pof idv (al_ 244 (60 * x4 + i3).toNat) (x6).toNat) → (sc_ = u1 sc 0 0) → ((9 - x6 : Int).toNat < N) → vm_Wp 5 112 116 41 [some (.ref 238), some (.int (vz i1)), some (.int (vz i2)), some (.int (vz i3)), some (.int (vz x4)), some (.int (vz x5)), some (.int (vz x6))] [] vh (vq_P 116 (fun r v1 => ∃ (ai1 : Nat → Nat → Int) (al1 : Nat → Nat → Int64) (q : Int), (slO V nv S (u1 sc 0 0) ai ai1 al al1 i1 i2 q ∧ (((q < 0 ∨ i3 < 0 ∨ ai1 242 q.toNat ≤ i3) ∧ r = some (.int (vz (-1)))) ∨ ((0 ≤ q ∧ 0 ≤ i3 ∧ i3 < ai1 242 q.toNat) ∧ r = some (.int (pof idv (al1 244 (60 * q + i3).toNat) 8))))) ∧ tmok ai1 ∧ tm (u1 sc 0 0) ai1 al1 az v0 v1))) := by
  intro N
  induction N with
  | zero => exact (by intros; omega)
  | succ N ih =>
    ·
      intro vh sc_ ai_ al_ x4 x5 x6 hM hK_ hx4 hx5 hx6 hi0q hi1 hi2 hN
      have hi0b := hi0q
      obtain ⟨q9, hq9, _, hb9⟩ := hi0b
      rw [hq9] at hb9
      have hk9 := hK_.1 (x4).toNat
      refine w_ldI e116_41 (fun _ => rfl) rfl ?_
      refine w_kB e116_43 rfl ?_
      refine w_ic e116_45 (by omega) (by omega) (fun (h24 : 8 ≤ x6) => ?_) (fun (h24 : x6 < 8) => ?_)
      ·
        refine w_ldI e116_81 (fun _ => rfl) rfl ?_
        exact w_ri e116_83 rfl (by obtain ⟨q, e9, h8, h9⟩ := hi0q; exact ⟨ai_, al_, q, ⟨h8, Or.inr ⟨h9, by rw [hi1, e9, show (x6).toNat = 8 by omega]⟩⟩, hK_, by rw [← hi2]; exact hM⟩)
      ·
        refine w_ldI e116_48 (fun _ => rfl) rfl ?_
        refine w_ldA e116_50 (fun _ => rfl) rfl ?_
        have e25 := tm_o hM
        refine w_get e116_51 e25 rfl ?_
        refine w_kB e116_54 rfl ?_
        refine w_ldI e116_56 (fun _ => rfl) rfl ?_
        refine w_imul e116_58 ?_
        refine w_ldI e116_59 (fun _ => rfl) rfl ?_
        refine w_iadd e116_60 ?_
        have e26 := tm_l hM (a := 244) (n := 4320) rfl
        refine w_lld e116_61 e26 (by omega) (by omega) (by decide) ?_
        refine w_ldI e116_62 (fun _ => rfl) rfl ?_
        refine w_cs e116_64 (by decide) (Nat.le_of_ble_eq_true rfl) (Nat.le_of_ble_eq_true rfl) (Nat.le_of_ble_eq_true rfl) (by decide) (by decide) (c78 (by omega)) (fun o27 v28 hq29 => ?_)
        obtain ⟨rfl, rfl⟩ := hq29
        have hp30 := pw_bd ((al_ 244 ((60 * x4) + i3).toNat)) x6
        refine w_kI e116_67 ?_
        refine w_ldI e116_68 (fun _ => rfl) rfl ?_
        refine w_imul e116_70 ?_
        refine w_x e116_71 (fun _ => rfl) ?_
        refine w_x e116_72 (fun _ => rfl) ?_
        obtain ⟨q31, hx33, h32⟩ := vz_ex (vz x5 ||| (vz (pw ((al_ 244 ((60 * x4) + i3).toNat)) x6) <<< (vz (4 * x6) &&& 31)))
        show vm_Wp _ _ _ 73 _ [.int (vz x5 ||| (vz (pw ((al_ 244 ((60 * x4) + i3).toNat)) x6) <<< (vz (4 * x6) &&& 31)))] _ _
        rw [hx33]
        refine w_stI (j := 5) (A1 := [some (.ref 238), some (.int (vz i1)), some (.int (vz i2)), some (.int (vz i3)), some (.int (vz x4)), some (.int (vz q31)), some (.int (vz x6))]) e116_73 (fun _ => rfl) (by decide) rfl ?_
        refine w_iinc (A1 := [some (.ref 238), some (.int (vz i1)), some (.int (vz i2)), some (.int (vz i3)), some (.int (vz x4)), some (.int (vz q31)), some (.int (vz (x6 + 1)))]) e116_75 rfl (by decide) rfl ?_
        refine w_x e116_78 (fun _ => rfl) ?_
        exact w_sub (A1 := [some (.ref 238), some (.int (vz i1)), some (.int (vz i2)), some (.int (vz i3)), some (.int (vz x4)), some (.int (vz q31)), some (.int (vz (x6 + 1)))]) (And.intro rfl (And.intro rfl (And.intro rfl (And.intro rfl (And.intro rfl (And.intro rfl (And.intro rfl trivial))))))) ((ih) vh sc_ ai_ al_ x4 q31 (x6 + 1) hM hK_ (by omega) h32 (by omega) hi0q (by rw [← hx33]; have h9 := pof_s (V := idv) (x := x6) hi1 hx6.1; rw [show idv (x6).toNat = x6 by unfold idv; omega] at h9; exact h9) hi2 (by omega))
set_option maxRecDepth 100000 in
set_option maxHeartbeats 4000000 in
theorem r116 {sc : Nat → Int} {ai : Nat → Nat → Int} {al : Nat → Nat → Int64} {az : Nat → Nat → Int32} {v0 vh : vm_H} (hM : tm sc ai al az v0 vh) (hK : tmok ai) {i1 : Int} (hi_1 : -2147483648 ≤ i1 ∧ i1 < 2147483648) {i2 : Int} (hi_2 : -2147483648 ≤ i2 ∧ i2 < 2147483648) {i3 : Int} (hi_3 : -2147483648 ≤ i3 ∧ i3 < 2147483648) {fr : Nat → Bool} {V : Nat → Nat} {nv : Nat} (hv : sc 1 = (nv : Int)) (hvr : vR ai = V) (hfr : frR az ai = fr) (hV : pmV V nv) {m : Nat} {S : Nat → Po × Nat × Nat} (hms : msQ fr V nv sc ai al m S) (hp4 : 0 ≤ sc 4 ∧ sc 4 ≤ 16) (hm11 : 0 ≤ sc 11 ∧ sc 11 ≤ 8) : vm_Rp 5 112 116 [.ref 238, .int (vz i1), .int (vz i2), .int (vz i3)] vh (fun r v1 => ∃ (ai1 : Nat → Nat → Int) (al1 : Nat → Nat → Int64) (q : Int), (slO V nv S (u1 sc 0 0) ai ai1 al al1 i1 i2 q ∧ (((q < 0 ∨ i3 < 0 ∨ ai1 242 q.toNat ≤ i3) ∧ r = some (.int (vz (-1)))) ∨ ((0 ≤ q ∧ 0 ≤ i3 ∧ i3 < ai1 242 q.toNat) ∧ r = some (.int (pof idv (al1 244 (60 * q + i3).toNat) 8))))) ∧ tmok ai1 ∧ tm (u1 sc 0 0) ai1 al1 az v0 v1) := by
  refine w_in (m := 3) ?_
  show vm_Wp _ _ _ 0 [some (.ref 238), some (.int (vz i1)), some (.int (vz i2)), some (.int (vz i3)), none, none, none] [] _ _
  refine w_ldA e116_0 (fun _ => rfl) rfl ?_
  refine w_kI e116_1 ?_
  have e1 := tm_o hM
  refine w_put e116_2 e1 (Nat.le_of_ble_eq_true rfl) rfl (fun v4 b2 h3 => ?_)
  obtain ⟨sc5, hd7, hM6⟩ : ∃ z, z = u1 sc 0 (0) ∧ tm z ai al az v0 v4 := ⟨_, rfl, tm_ps 0 hM (by omega) b2 h3⟩
  have hs1 : sc5 1 = sc 1 := by rw [hd7, u1_o (by decide)]
  have hs4 : sc5 4 = sc 4 := by rw [hd7, u1_o (by decide)]
  have hs11 : sc5 11 = sc 11 := by rw [hd7, u1_o (by decide)]
  have hs12 : sc5 12 = sc 12 := by rw [hd7, u1_o (by decide)]
  have hs13 : sc5 13 = sc 13 := by rw [hd7, u1_o (by decide)]
  refine w_ldA e116_5 (fun _ => rfl) rfl ?_
  refine w_ldI e116_6 (fun _ => rfl) rfl ?_
  refine w_ldI e116_7 (fun _ => rfl) rfl ?_
  have e8 := tm_o hM6
  refine w_cv e116_8 (by decide) rfl e8 rfl (Nat.le_of_ble_eq_true rfl) (Nat.le_of_ble_eq_true rfl) (Nat.le_of_ble_eq_true rfl) (by decide) (by decide) (r114 hM6 hK hi_1 hi_2 (hs1.trans hv) hvr hfr hV (msQ_u hms hs11) (by omega) (by omega)) (fun o9 v10 hq11 => ?_)
  obtain ⟨ai12, al13, q14, ho15, rfl, hK16, hM17⟩ := hq11
  have hsb := slO_b ho15 (by omega) (by omega)
  have hsk := hK16.1 (q14).toNat
  refine w_stI (j := 4) (A1 := [some (.ref 238), some (.int (vz i1)), some (.int (vz i2)), some (.int (vz i3)), some (.int (vz q14)), none, none]) e116_11 (fun _ => rfl) (by decide) rfl ?_
  refine w_ldI e116_13 (fun _ => rfl) rfl ?_
  refine w_if e116_15 (by omega) (fun (h18 : q14 < 0) => ?_) (fun (h18 : 0 ≤ q14) => ?_)
  ·
    refine w_kI e116_33 ?_
    exact w_ri e116_34 rfl ⟨ai12, al13, q14, ⟨by have h9 := ho15; rw [hd7] at h9; exact h9, Or.inl ⟨by omega, rfl⟩⟩, hK16, by have h9 := hM17; rw [hd7] at h9; exact h9⟩
  ·
    refine w_ldI e116_18 (fun _ => rfl) rfl ?_
    refine w_if e116_19 hi_3 (fun (h19 : i3 < 0) => ?_) (fun (h19 : 0 ≤ i3) => ?_)
    ·
      refine w_kI e116_33 ?_
      exact w_ri e116_34 rfl ⟨ai12, al13, q14, ⟨by have h9 := ho15; rw [hd7] at h9; exact h9, Or.inl ⟨by omega, rfl⟩⟩, hK16, by have h9 := hM17; rw [hd7] at h9; exact h9⟩
    ·
      refine w_ldI e116_22 (fun _ => rfl) rfl ?_
      refine w_ldA e116_23 (fun _ => rfl) rfl ?_
      have e20 := tm_o hM17
      refine w_get e116_24 e20 rfl ?_
      refine w_ldI e116_27 (fun _ => rfl) rfl ?_
      have e21 := tm_i hM17 (a := 242) (n := 72) rfl
      refine w_ald e116_29 e21 (by omega) (by omega) (by decide) ?_
      show vm_Wp _ _ _ 30 _ [.int (vz (ai12 242 (q14).toNat)), .int (vz i3)] _ _
      have hk22 := hK16.1 (q14).toNat
      refine w_ic e116_30 hi_3 (tm_r hM17 242 (q14).toNat) (fun (h23 : i3 < ai12 242 (q14).toNat) => ?_) (fun (h23 : ai12 242 (q14).toNat ≤ i3) => ?_)
      ·
        refine w_kI e116_35 ?_
        refine w_stI (j := 5) (A1 := [some (.ref 238), some (.int (vz i1)), some (.int (vz i2)), some (.int (vz i3)), some (.int (vz q14)), some (.int (vz 0)), none]) e116_36 (fun _ => rfl) (by decide) rfl ?_
        refine w_kI e116_38 ?_
        refine w_stI (j := 6) (A1 := [some (.ref 238), some (.int (vz i1)), some (.int (vz i2)), some (.int (vz i3)), some (.int (vz q14)), some (.int (vz 0)), some (.int (vz 0))]) e116_39 (fun _ => rfl) (by decide) rfl ?_
        exact w_sub (A1 := [some (.ref 238), some (.int (vz i1)), some (.int (vz i2)), some (.int (vz i3)), some (.int (vz q14)), some (.int (vz 0)), some (.int (vz 0))]) (And.intro rfl (And.intro rfl (And.intro rfl (And.intro rfl (And.intro rfl (And.intro rfl (And.intro rfl trivial))))))) (((r116_L (sc := sc) (ai := ai) (al := al) (az := az) (v0 := v0) (i1 := i1) (i2 := i2) (i3 := i3) (fr := fr) (V := V) (nv := nv) (m := m) (S := S) hK hi_1 hi_2 hi_3 hv hvr hfr hV hms hp4 hm11 _)) v10 sc5 ai12 al13 q14 0 0 hM17 hK16 (by omega) (by omega) (by omega) ⟨_, rfl, by have h9 := ho15; rw [hd7] at h9; exact h9, by omega⟩ rfl hd7 (Nat.lt_succ_self _))
      ·
        refine w_kI e116_33 ?_
        exact w_ri e116_34 rfl ⟨ai12, al13, q14, ⟨by have h9 := ho15; rw [hd7] at h9; exact h9, Or.inl ⟨by omega, rfl⟩⟩, hK16, by have h9 := hM17; rw [hd7] at h9; exact h9⟩
