set_option maxRecDepth 100000 in
set_option maxHeartbeats 4000000 in
theorem c3x {nv : Int} {V : Nat → Int} {v0 vh : vm_H} (hM : vd nv V v0 vh) (hn : 0 ≤ nv ∧ nv ≤ 8) (hO : onto V nv) {i1 : Int} (hi_1 : 0 ≤ i1 ∧ i1 ≤ 1) : vm_Rp 0 0 3 [.ref 2, .int (vz i1)] vh (fun r v1 => ∃ (q n1 : Int) (V1 : Nat → Int), vd n1 V1 v0 v1 ∧ onto V1 n1 ∧ ((nv = 8 ∧ q = -1 ∧ n1 = nv ∧ V1 = V) ∨ (nv < 8 ∧ q = nv ∧ n1 = nv + 1 ∧ V1 = u1 V (nv).toNat nv)) ∧ r = some (.int (vz q))) := by
  refine w_in (m := 0) ?_
  show vm_Wp _ _ _ 0 [some (.ref 2), some (.int (vz i1))] [] _ _
  refine w_ldA e3_0 (fun _ => rfl) rfl ?_
  refine w_get e3_1 hM.2.2.1 rfl ?_
  refine w_kB e3_4 rfl ?_
  refine w_ic e3_6 (by omega) (by omega) (fun (h1 : nv < 8) => ?_) (fun (h1 : 8 ≤ nv) => ?_)
  ·
    refine w_ldA e3_11 (fun _ => rfl) rfl ?_
    refine w_get e3_12 hM.2.2.1 rfl ?_
    refine w_ldA e3_15 (fun _ => rfl) rfl ?_
    refine w_get e3_16 hM.2.2.1 rfl ?_
    refine w_ldI e3_19 (fun _ => rfl) rfl ?_
    obtain ⟨f2, e3⟩ := hM.2.2.2.1
    refine w_zst e3_20 (e3) (by omega) (by omega) (by decide) (fun v6 b4 h5 => ?_)
    have hM7 := vd_f hM b4 h5
    refine w_ldA e3_21 (fun _ => rfl) rfl ?_
    refine w_get e3_22 hM7.2.2.1 rfl ?_
    refine w_ldA e3_25 (fun _ => rfl) rfl ?_
    refine w_get e3_26 hM7.2.2.1 rfl ?_
    refine w_ldA e3_29 (fun _ => rfl) rfl ?_
    refine w_get e3_30 hM7.2.2.1 rfl ?_
    refine w_ast e3_33 (hM7.2.2.2.2) (by omega) (by omega) (by decide) (by decide) (fun v10 b8 h9 => ?_)
    obtain ⟨V11, hd12, hM13⟩ : ∃ z, z = u1 V (nv : Int).toNat nv ∧ vd nv z v0 v10 := ⟨_, rfl, vd_v hM7 b8 h9⟩
    refine w_ldA e3_34 (fun _ => rfl) rfl ?_
    refine w_x e3_35 (fun _ => rfl) ?_
    refine w_get e3_36 hM13.2.2.1 rfl ?_
    refine w_kI e3_39 ?_
    refine w_iadd e3_40 ?_
    refine w_put e3_41 (hM13.2.2.1) (Nat.le_of_ble_eq_true rfl) rfl (fun v16 b14 h15 => ?_)
    obtain ⟨nv17, hd18, hM19⟩ : ∃ z, z = nv + 1 ∧ vd z V11 v0 v16 := ⟨_, rfl, vd_n hM13 b14 h15⟩
    refine w_ldA e3_44 (fun _ => rfl) rfl ?_
    refine w_get e3_45 hM19.2.2.1 rfl ?_
    refine w_kI e3_48 ?_
    refine w_isub e3_49 ?_
    exact w_ri e3_50 rfl ⟨nv17 - 1, nv17, V11, hM19, (by rw [hd18]; exact onto_add hO (by omega) hd12), Or.inr ⟨by omega, by omega, hd18, hd12⟩, rfl⟩
  ·
    refine w_kI e3_9 ?_
    exact w_ri e3_10 rfl ⟨-1, nv, V, hM, hO, Or.inl ⟨by omega, by omega, rfl, rfl⟩, rfl⟩
set_option maxRecDepth 100000 in
set_option maxHeartbeats 4000000 in
theorem c6x_L {nv : Int} {V : Nat → Int} {v0 : vm_H} (hn : 0 ≤ nv ∧ nv ≤ 8) (hO : onto V nv) {i1 : Int} (hi_1 : 0 ≤ i1 ∧ i1 < nv) {i2 : Int} (hi_2 : 0 ≤ i2 ∧ i2 < nv) : ∀ N : Nat, (∀ (vh : vm_H) (V_ : Nat → Int) (x3 : Int) (x4 : Int), (vd nv V_ v0 vh) → (0 ≤ x3 ∧ x3 < 8) → ((i1 ≤ x4 ∧ x4 < nv) ∧ (x4 = i1 ∨ x4 ≤ i2)) → (holv V_ nv x3 x4) → ((100 - x4 : Int).toNat < N) → vm_Wp 0 0 6 10 [some (.ref 2), some (.int (vz i1)), some (.int (vz i2)), some (.int (vz x3)), some (.int (vz x4))] [] vh (vq_P 6 (fun r v1 => (∃ V1 : Nat → Int, vd nv V1 v0 v1 ∧ onto V1 nv) ∧ r = none))) ∧ (∀ (vh : vm_H) (V_ : Nat → Int) (x3 : Int) (x4 : Int), (vd nv V_ v0 vh) → (0 ≤ x3 ∧ x3 < 8) → (0 ≤ x4 ∧ x4 < nv) → ((i1 < i2 ∧ x4 = i1 ∧ holv V_ nv x3 i2) ∨ (i2 ≤ i1 ∧ holv V_ nv x3 x4 ∧ i2 ≤ x4)) → ((x4 : Int).toNat < N) → vm_Wp 0 0 6 41 [some (.ref 2), some (.int (vz i1)), some (.int (vz i2)), some (.int (vz x3)), some (.int (vz x4))] [] vh (vq_P 6 (fun r v1 => (∃ V1 : Nat → Int, vd nv V1 v0 v1 ∧ onto V1 nv) ∧ r = none))) := by
  intro N
  induction N with
  | zero => exact ⟨by intros; omega, by intros; omega⟩
  | succ N ih =>
    refine ⟨?_, ?_⟩
    ·
      intro vh V_ x3 x4 hM hx3 hx4 hi0 hN
      refine w_ldI e6_10 (fun _ => rfl) rfl ?_
      refine w_ldI e6_12 (fun _ => rfl) rfl ?_
      refine w_ic e6_13 (by omega) (by omega) (fun (h2 : i2 ≤ x4) => ?_) (fun (h2 : x4 < i2) => ?_)
      ·
        refine w_ldI e6_38 (fun _ => rfl) rfl ?_
        refine w_stI (j := 4) (A1 := [some (.ref 2), some (.int (vz i1)), some (.int (vz i2)), some (.int (vz x3)), some (.int (vz i1))]) e6_39 (fun _ => rfl) (by decide) rfl ?_
        exact w_sub (A1 := [some (.ref 2), some (.int (vz i1)), some (.int (vz i2)), some (.int (vz x3)), some (.int (vz i1))]) (And.intro rfl (And.intro rfl (And.intro rfl (And.intro rfl (And.intro rfl trivial))))) ((ih.2) vh V_ x3 i1 hM (by omega) (by omega) (by by_cases h9 : i1 < i2; exact Or.inl ⟨h9, rfl, (by rw [show i2 = x4 by omega]; exact hi0)⟩; exact Or.inr ⟨by omega, (by rw [show i1 = x4 by omega]; exact hi0), by omega⟩) (by omega))
      ·
        refine w_ldA e6_16 (fun _ => rfl) rfl ?_
        refine w_get e6_17 hM.2.2.1 rfl ?_
        refine w_ldI e6_20 (fun _ => rfl) rfl ?_
        refine w_ldA e6_22 (fun _ => rfl) rfl ?_
        refine w_get e6_23 hM.2.2.1 rfl ?_
        refine w_ldI e6_26 (fun _ => rfl) rfl ?_
        refine w_kI e6_28 ?_
        refine w_iadd e6_29 ?_
        refine w_ald e6_30 (hM.2.2.2.2) (by omega) (by omega) (by decide) ?_
        show vm_Wp _ _ _ 31 _ [.int (vz (V_ (x4 + 1 : Int).toNat)), .int (vz x4), .ref 5] _ _
        have hk3 := hi0.1 (x4 + 1 : Int).toNat
        refine w_ast e6_31 (hM.2.2.2.2) (by omega) (by omega) (by decide) (by decide) (fun v6 b4 h5 => ?_)
        obtain ⟨V7, hd8, hM9⟩ : ∃ z, z = u1 V_ (x4 : Int).toNat (V_ (x4 + 1 : Int).toNat) ∧ vd nv z v0 v6 := ⟨_, rfl, vd_v hM b4 h5⟩
        refine w_iinc (A1 := [some (.ref 2), some (.int (vz i1)), some (.int (vz i2)), some (.int (vz x3)), some (.int (vz (x4 + 1)))]) e6_32 rfl (by decide) rfl ?_
        refine w_x e6_35 (fun _ => rfl) ?_
        exact w_sub (A1 := [some (.ref 2), some (.int (vz i1)), some (.int (vz i2)), some (.int (vz x3)), some (.int (vz (x4 + 1)))]) (And.intro rfl (And.intro rfl (And.intro rfl (And.intro rfl (And.intro rfl trivial))))) ((ih.1) v6 V7 x3 (x4 + 1) hM9 (by omega) (by omega) (hv_up hi0 (by omega) rfl hd8) (by omega))
    ·
      intro vh V_ x3 x4 hM hx3 hx4 hi0 hN
      refine w_ldI e6_41 (fun _ => rfl) rfl ?_
      refine w_ldI e6_43 (fun _ => rfl) rfl ?_
      refine w_ic e6_44 (by omega) (by omega) (fun (h10 : x4 ≤ i2) => ?_) (fun (h10 : i2 < x4) => ?_)
      ·
        refine w_ldA e6_69 (fun _ => rfl) rfl ?_
        refine w_get e6_70 hM.2.2.1 rfl ?_
        refine w_ldI e6_73 (fun _ => rfl) rfl ?_
        refine w_ldI e6_74 (fun _ => rfl) rfl ?_
        refine w_ast e6_75 (hM.2.2.2.2) (by omega) (by omega) (by decide) (by decide) (fun v13 b11 h12 => ?_)
        obtain ⟨V14, hd15, hM16⟩ : ∃ z, z = u1 V_ (i2 : Int).toNat x3 ∧ vd nv z v0 v13 := ⟨_, rfl, vd_v hM b11 h12⟩
        exact w_rv e6_76 rfl ⟨⟨V14, hM16, hv_end (w := i2) (hi0.elim (fun z => z.2.2) (fun z => by rw [show i2 = x4 by omega]; exact z.2.1)) (by omega) (by omega) rfl hd15⟩, rfl⟩
      ·
        refine w_ldA e6_47 (fun _ => rfl) rfl ?_
        refine w_get e6_48 hM.2.2.1 rfl ?_
        refine w_ldI e6_51 (fun _ => rfl) rfl ?_
        refine w_ldA e6_53 (fun _ => rfl) rfl ?_
        refine w_get e6_54 hM.2.2.1 rfl ?_
        refine w_ldI e6_57 (fun _ => rfl) rfl ?_
        refine w_kI e6_59 ?_
        refine w_isub e6_60 ?_
        refine w_ald e6_61 (hM.2.2.2.2) (by omega) (by omega) (by decide) ?_
        show vm_Wp _ _ _ 62 _ [.int (vz (V_ (x4 - 1 : Int).toNat)), .int (vz x4), .ref 5] _ _
        have hk17 := (hi0.elim (fun z => z.2.2.1) (fun z => z.2.1.1)) (x4 - 1 : Int).toNat
        refine w_ast e6_62 (hM.2.2.2.2) (by omega) (by omega) (by decide) (by decide) (fun v20 b18 h19 => ?_)
        obtain ⟨V21, hd22, hM23⟩ : ∃ z, z = u1 V_ (x4 : Int).toNat (V_ (x4 - 1 : Int).toNat) ∧ vd nv z v0 v20 := ⟨_, rfl, vd_v hM b18 h19⟩
        refine w_iinc (A1 := [some (.ref 2), some (.int (vz i1)), some (.int (vz i2)), some (.int (vz x3)), some (.int (vz (x4 + (-1))))]) e6_63 rfl (by decide) rfl ?_
        refine w_x e6_66 (fun _ => rfl) ?_
        exact w_sub (A1 := [some (.ref 2), some (.int (vz i1)), some (.int (vz i2)), some (.int (vz x3)), some (.int (vz (x4 + (-1))))]) (And.intro rfl (And.intro rfl (And.intro rfl (And.intro rfl (And.intro rfl trivial))))) ((ih.2) v20 V21 x3 (x4 + (-1)) hM23 (by omega) (by omega) (by rcases hi0 with z | z; exact absurd z.2.1 (by omega); exact Or.inr ⟨z.1, hv_dn z.2.1 (by omega) rfl hd22, by omega⟩) (by omega))
set_option maxRecDepth 100000 in
set_option maxHeartbeats 4000000 in
theorem c6x {nv : Int} {V : Nat → Int} {v0 vh : vm_H} (hM : vd nv V v0 vh) (hn : 0 ≤ nv ∧ nv ≤ 8) (hO : onto V nv) {i1 : Int} (hi_1 : 0 ≤ i1 ∧ i1 < nv) {i2 : Int} (hi_2 : 0 ≤ i2 ∧ i2 < nv) : vm_Rp 0 0 6 [.ref 2, .int (vz i1), .int (vz i2)] vh (fun r v1 => (∃ V1 : Nat → Int, vd nv V1 v0 v1 ∧ onto V1 nv) ∧ r = none) := by
  refine w_in (m := 2) ?_
  show vm_Wp _ _ _ 0 [some (.ref 2), some (.int (vz i1)), some (.int (vz i2)), none, none] [] _ _
  refine w_ldA e6_0 (fun _ => rfl) rfl ?_
  refine w_get e6_1 hM.2.2.1 rfl ?_
  refine w_ldI e6_4 (fun _ => rfl) rfl ?_
  refine w_ald e6_5 (hM.2.2.2.2) (by omega) (by omega) (by decide) ?_
  show vm_Wp _ _ _ 6 _ [.int (vz (V (i1 : Int).toNat))] _ _
  have hk1 := hO.1 (i1 : Int).toNat
  refine w_stI (j := 3) (A1 := [some (.ref 2), some (.int (vz i1)), some (.int (vz i2)), some (.int (vz (V (i1 : Int).toNat))), none]) e6_6 (fun _ => rfl) (by decide) rfl ?_
  refine w_ldI e6_7 (fun _ => rfl) rfl ?_
  refine w_stI (j := 4) (A1 := [some (.ref 2), some (.int (vz i1)), some (.int (vz i2)), some (.int (vz (V (i1 : Int).toNat))), some (.int (vz i1))]) e6_8 (fun _ => rfl) (by decide) rfl ?_
  exact w_sub (A1 := [some (.ref 2), some (.int (vz i1)), some (.int (vz i2)), some (.int (vz (V (i1 : Int).toNat))), some (.int (vz i1))]) (And.intro rfl (And.intro rfl (And.intro rfl (And.intro rfl (And.intro rfl trivial))))) (((c6x_L (nv := nv) (V := V) (v0 := v0) (i1 := i1) (i2 := i2) hn hO hi_1 hi_2 _).1) vh V (V (i1 : Int).toNat) i1 hM (by omega) (by omega) (hv_0 hO (by omega) rfl) (Nat.lt_succ_self _))
