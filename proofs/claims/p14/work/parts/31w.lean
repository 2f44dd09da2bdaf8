set_option maxRecDepth 100000 in
set_option maxHeartbeats 4000000 in
theorem k69_L {Z : Nat → Nat → Int} {al : Nat → Nat → Int64} {ai : Nat → Nat → Int} {az : Nat → Nat → Int32} {mm : Nat → Option Nat} {sk : Nat} {v0 : vm_H} (hk : kn Z) {fr : Nat → Bool} {nv c s : Nat} {R : Nat → Po} (hn8 : nv ≤ 8) (ez : Z 2 0 = (nv : Int)) (hv : ∀ j, 0 ≤ ai 5 j ∧ ai 5 j < 8) (hfr : frK az ai = fr) (hR : rwK fr nv Z al R c) (hc : c ≤ 40) (h11 : Z 1 1 = (c : Int)) (h14 : Z 1 4 = (s : Int)) (hs : s ≤ 1000) : ∀ N : Nat, (∀ (vh : vm_H) (Z_ : Nat → Nat → Int) (al_ : Nat → Nat → Int64) (ai_ : Nat → Nat → Int) (mm_ : Nat → Option Nat) (sk_ : Nat) (x2 : Int), (tk Z_ al_ ai_ az mm_ sk_ v0 vh) → (kn Z_) → (0 ≤ x2 ∧ x2 ≤ Z 1 1) → (mrI fr nv (bsP fr nv R c 8 []) R c s Z Z_ al al_ ai ai_ mm_ x2) → ((41 - x2 : Int).toNat < N) → vm_Wp 5 137 69 19 [some (.ref 1), some (.int (vz (Z 1 1))), some (.int (vz x2)), none] [] vh (vq_P 69 (fun r v1 => ∃ (Z1 : Nat → Nat → Int) (al1 : Nat → Nat → Int64) (ai1 : Nat → Nat → Int) (mm1 : Nat → Option Nat) (sk1 : Nat), (r = some (.int (vz (rnP fr nv R c s).1)) ∧ mrO fr nv (bsP fr nv R c 8 []) c (rnP fr nv R c s) Z Z1 al al1 ai ai1 mm1) ∧ kn Z1 ∧ tk Z1 al1 ai1 az mm1 sk1 v0 v1))) := by
  intro N
  induction N with
  | zero => exact (by intros; omega)
  | succ N ih =>
    ·
      intro vh Z_ al_ ai_ mm_ sk_ x2 hM hk_ hx2 hi0 hN
      obtain ⟨R1, c1, s1, hO, hw⟩ := hi0
      have hcc : c ≤ c1 := hO.2.2.1.2
      have hc1 : Z_ 1 1 = (c1 : Int) := hO.1.1.1
      have hc2 : c1 ≤ 40 := hO.1.1.2
      have hai : ai_ 5 = ai 5 := hO.2.2.2.2.2.2.2 5 (by decide)
      have ez_ : Z_ 2 0 = (nv : Int) := by rw [hO.2.2.2.2.1 2 (by decide) (by omega)]; exact ez
      have hv_ : ∀ j, 0 ≤ ai_ 5 j ∧ ai_ 5 j < 8 := by rw [hai]; exact hv
      have hfr_ : frK az ai_ = fr := (frK_cg hai).trans hfr
      have hB9 := hO.2.2.1.1
      refine w_ldI e69_19 (fun _ => rfl) rfl ?_
      refine w_ldI e69_20 (fun _ => rfl) rfl ?_
      refine w_ic e69_21 (by omega) (by omega) (fun (h12 : Z 1 1 ≤ x2) => ?_) (fun (h12 : x2 < Z 1 1) => ?_)
      ·
        refine w_ldA e69_67 (fun _ => rfl) rfl ?_
        have e13 := tk_main hM
        refine w_get e69_68 e13 rfl ?_
        refine w_ldI e69_71 (fun _ => rfl) rfl ?_
        refine w_ic e69_72 (tk_r hM 1 1) (by omega) (fun (h14 : Z_ 1 1 ≠ Z 1 1) => ?_) (fun (h14 : Z_ 1 1 = Z 1 1) => ?_)
        ·
          refine w_kI e69_79 ?_
          exact w_ri e69_80 rfl ⟨Z_, al_, ai_, mm_, sk_, by rw [mr_end hw (by omega), if_neg (by omega)]; exact ⟨rfl, mr_any hO⟩, hk_, hM⟩
        ·
          refine w_kI e69_75 ?_
          refine w_x e69_76 (fun _ => rfl) ?_
          exact w_ri e69_80 rfl ⟨Z_, al_, ai_, mm_, sk_, by rw [mr_end hw (by omega), if_pos (by omega)]; exact ⟨rfl, mr_any hO⟩, hk_, hM⟩
      ·
        refine w_ldA e69_24 (fun _ => rfl) rfl ?_
        have e15 := tk_main hM
        refine w_get e69_25 e15 rfl ?_
        refine w_ldA e69_28 (fun _ => rfl) rfl ?_
        refine w_get e69_29 e15 rfl ?_
        refine w_ldI e69_32 (fun _ => rfl) rfl ?_
        obtain ⟨f17, hf18, e16⟩ := tk_rows hM
        refine w_qld e69_33 e16 (by decide) (by omega) (by omega) (by decide) (hf18 _ (by omega)) ?_
        have e19 := tk_tri hM
        refine w_cv e69_34 (by decide) rfl e19 rfl (Nat.le_of_ble_eq_true rfl) (Nat.le_of_ble_eq_true rfl) (Nat.le_of_ble_eq_true rfl) (by decide) (by decide) (k41 hM hk_ (ty_ri ((x2).toNat) (by omega)) hB9 hc) (fun o20 v21 hq22 => ?_)
        obtain ⟨rfl, q23, h24, rfl⟩ := hq22
        have hb25 := h24.1
        refine w_if e69_37 (by omega) (fun (h26 : q23 = 0) => ?_) (fun (h26 : q23 ≠ 0) => ?_)
        ·
          have hnb : ¬ (x2).toNat ∈ (bsP fr nv R c 8 []) := fun z => by have h9 := h24.2.mpr ((ho_iff hO.2.2.1.1).mpr z); omega
          refine w_ldA e69_43 (fun _ => rfl) rfl ?_
          refine w_ldA e69_44 (fun _ => rfl) rfl ?_
          refine w_get e69_45 e15 rfl ?_
          refine w_ldI e69_48 (fun _ => rfl) rfl ?_
          refine w_qld e69_49 e16 (by decide) (by omega) (by omega) (by decide) (hf18 _ (by omega)) ?_
          refine w_cv e69_50 (by decide) rfl e15 rfl (Nat.le_of_ble_eq_true rfl) (Nat.le_of_ble_eq_true rfl) (Nat.le_of_ble_eq_true rfl) (by decide) (by decide) (k70 hM hk_ (ty_ri ((x2).toNat) (by omega)) hn8 ez_ hv_ hfr_ hO.2.1 (mb_mono hO.2.2.1.1 hO.2.2.1.2) hO.1.1.2 hO.1.1.1 hO.1.2.1 hO.1.2.2 rfl (Nat.lt_of_lt_of_le (by omega) hO.2.2.1.2)) (fun o27 v28 hq29 => ?_)
          obtain ⟨Z30, al31, ai32, sk33, ⟨rfl, ho34⟩, hk35, hM36⟩ := hq29
          have hO9 := mr_t hO ho34
          have hrg := rs_rng (fr := fr) (nv := nv) (B := (bsP fr nv R c 8 [])) (R := R1) (c := c1) (s := s1) (r := (x2).toNat)
          refine w_stI (j := 3) (A1 := [some (.ref 1), some (.int (vz (Z 1 1))), some (.int (vz x2)), some (.int (vz ((rsP fr nv (bsP fr nv R c 8 []) R1 c1 s1 (x2).toNat).1)))]) e69_53 (fun _ => rfl) (by decide) rfl ?_
          refine w_ldI e69_54 (fun _ => rfl) rfl ?_
          refine w_kI e69_55 ?_
          refine w_ic e69_56 (by omega) (by omega) (fun (h37 : (rsP fr nv (bsP fr nv R c 8 []) R1 c1 s1 (x2).toNat).1 = 3) => ?_) (fun (h37 : (rsP fr nv (bsP fr nv R c 8 []) R1 c1 s1 (x2).toNat).1 ≠ 3) => ?_)
          ·
            refine w_iinc (A1 := [some (.ref 1), some (.int (vz (Z 1 1))), some (.int (vz (x2 + 1))), some (.int (vz ((rsP fr nv (bsP fr nv R c 8 []) R1 c1 s1 (x2).toNat).1)))]) e69_61 rfl (by decide) rfl ?_
            refine w_x e69_64 (fun _ => rfl) ?_
            exact w_sub (A1 := [some (.ref 1), some (.int (vz (Z 1 1))), some (.int (vz (x2 + 1))), none]) (And.intro rfl (And.intro rfl (And.intro rfl trivial))) ((ih) v28 Z30 al31 ai32 mm_ sk33 (x2 + 1) hM36 hk35 (by omega) (mr_out hO9 hw (by omega) hnb (by omega)) (by omega))
          ·
            refine w_ldI e69_59 (fun _ => rfl) rfl ?_
            exact w_ri e69_60 rfl ⟨Z30, al31, ai32, mm_, sk33, by rw [mr_ret hw (by omega) hnb (by omega)]; exact ⟨rfl, hO9⟩, hk35, hM36⟩
        ·
          refine w_x e69_40 (fun _ => rfl) ?_
          refine w_iinc (A1 := [some (.ref 1), some (.int (vz (Z 1 1))), some (.int (vz (x2 + 1))), none]) e69_61 rfl (by decide) rfl ?_
          refine w_x e69_64 (fun _ => rfl) ?_
          exact w_sub (A1 := [some (.ref 1), some (.int (vz (Z 1 1))), some (.int (vz (x2 + 1))), none]) (And.intro rfl (And.intro rfl (And.intro rfl trivial))) ((ih) vh Z_ al_ ai_ mm_ sk_ (x2 + 1) hM hk_ (by omega) (mr_in hO hw (by omega) ((ho_iff hO.2.2.1.1).mp (h24.2.mp (by omega)))) (by omega))
set_option maxRecDepth 100000 in
set_option maxHeartbeats 4000000 in
theorem k69 {Z : Nat → Nat → Int} {al : Nat → Nat → Int64} {ai : Nat → Nat → Int} {az : Nat → Nat → Int32} {mm : Nat → Option Nat} {sk : Nat} {v0 vh : vm_H} (hM : tk Z al ai az mm sk v0 vh) (hk : kn Z) {fr : Nat → Bool} {nv c s : Nat} {R : Nat → Po} (hn8 : nv ≤ 8) (ez : Z 2 0 = (nv : Int)) (hv : ∀ j, 0 ≤ ai 5 j ∧ ai 5 j < 8) (hfr : frK az ai = fr) (hR : rwK fr nv Z al R c) (hc : c ≤ 40) (h11 : Z 1 1 = (c : Int)) (h14 : Z 1 4 = (s : Int)) (hs : s ≤ 1000) : vm_Rp 5 137 69 [.ref 1] vh (fun r v1 => ∃ (Z1 : Nat → Nat → Int) (al1 : Nat → Nat → Int64) (ai1 : Nat → Nat → Int) (mm1 : Nat → Option Nat) (sk1 : Nat), (r = some (.int (vz (rnP fr nv R c s).1)) ∧ mrO fr nv (bsP fr nv R c 8 []) c (rnP fr nv R c s) Z Z1 al al1 ai ai1 mm1) ∧ kn Z1 ∧ tk Z1 al1 ai1 az mm1 sk1 v0 v1) := by
  refine w_in (m := 3) ?_
  show vm_Wp _ _ _ 0 [some (.ref 1), none, none, none] [] _ _
  refine w_ldA e69_0 (fun _ => rfl) rfl ?_
  have e1 := tk_main hM
  refine w_get e69_1 e1 rfl ?_
  refine w_stI (j := 1) (A1 := [some (.ref 1), some (.int (vz (Z 1 1))), none, none]) e69_4 (fun _ => rfl) (by decide) rfl ?_
  refine w_ldA e69_5 (fun _ => rfl) rfl ?_
  refine w_get e69_6 e1 rfl ?_
  refine w_ldA e69_9 (fun _ => rfl) rfl ?_
  refine w_get e69_10 e1 rfl ?_
  refine w_ldI e69_13 (fun _ => rfl) rfl ?_
  have e2 := tk_tri hM
  refine w_cv e69_14 (by decide) rfl e2 rfl (Nat.le_of_ble_eq_true rfl) (Nat.le_of_ble_eq_true rfl) (Nat.le_of_ble_eq_true rfl) (by decide) (by decide) (k38 hM hk (by omega) hR hc hn8 (by omega)) (fun o3 v4 hq5 => ?_)
  obtain ⟨⟨Z6, mm7, ⟨hz8, hb9⟩, hk10, hM11⟩, rfl⟩ := hq5
  refine w_kI e69_17 ?_
  refine w_stI (j := 2) (A1 := [some (.ref 1), some (.int (vz (Z 1 1))), some (.int (vz 0)), none]) e69_18 (fun _ => rfl) (by decide) rfl ?_
  exact w_sub (A1 := [some (.ref 1), some (.int (vz (Z 1 1))), some (.int (vz 0)), none]) (And.intro rfl (And.intro rfl (And.intro rfl trivial))) (((k69_L (Z := Z) (al := al) (ai := ai) (az := az) (mm := mm) (sk := sk) (v0 := v0) (fr := fr) (nv := nv) (c := c) (s := s) (R := R) hk hn8 ez hv hfr hR hc h11 h14 hs _)) v4 Z6 al ai mm7 sk 0 hM11 hk10 (by omega) (mr_0 hR hc h11 h14 hs hz8 hb9) (Nat.lt_succ_self _))
