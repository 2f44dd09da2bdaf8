set_option maxRecDepth 100000 in
set_option maxHeartbeats 4000000 in
theorem r102_L {sc : Nat → Int} {ai : Nat → Nat → Int} {al : Nat → Nat → Int64} {az : Nat → Nat → Int32} {v0 : vm_H} (hK : tmok ai) {fr : Nat → Bool} {V : Nat → Nat} {nv : Nat} (hv : sc 1 = (nv : Int)) (hvr : vR ai = V) (hfr : frR az ai = fr) (hV : pmV V nv) {n : Nat} {U : Nat → Po} (hU : usQ V nv n U ai al) (hn16 : n ≤ 16) (h4 : sc 4 = (n : Int)) (hG : tbG V nv sc ai al az []) : ∀ N : Nat, (∀ (vh : vm_H) (sc_ : Nat → Int) (x1 : Int) (x2 : Int), (tm sc_ ai al az v0 vh) → (0 ≤ x1 ∧ x1 ≤ x2) → (0 ≤ x2 ∧ x2 ≤ (n : Int)) → (sc_ = u1 sc 0 0) → (x1 = ((thP U (hyR az) (x2).toNat).2 : Int)) → ((1000 + 17 - x2 : Int).toNat < N) → vm_Wp 7 181 102 9 [some (.ref 238), some (.int (vz x1)), some (.int (vz x2)), none, none] [] vh (vq_P 102 (fun r v1 => ∃ (sc1 : Nat → Int) (ai1 : Nat → Nat → Int) (al1 : Nat → Nat → Int64) (az1 : Nat → Nat → Int32), (((thP U (hyR az) n).2 = 0 ∧ sc1 = u1 sc 0 0 ∧ ai1 = ai ∧ al1 = al ∧ az1 = az ∧ r = some (.int (vz (-1)))) ∨ ((thP U (hyR az) n).2 ≠ 0 ∧ deR fr V nv (deP fr nv (thP U (hyR az) n).1 (thP U (hyR az) n).2) sc sc1 ai ai1 al al1 az az1 ∧ r = some (.int (vz (deP fr nv (thP U (hyR az) n).1 (thP U (hyR az) n).2).1.1)))) ∧ tmok ai1 ∧ tm sc1 ai1 al1 az1 v0 v1))) ∧ (∀ (vh : vm_H) (sc_ : Nat → Int) (ai_ : Nat → Nat → Int) (al_ : Nat → Nat → Int64) (x2 : Int) (x3 : Int), (tm sc_ ai_ al_ az v0 vh) → (tmok ai_) → (-1 ≤ x2 ∧ x2 < 72) → (0 ≤ x3 ∧ x3 ≤ (n : Int)) → (∃ s0, d0 sc s0 ∧ thJ fr V nv U (hyR az) s0 sc_ ai ai_ al al_ az x2 x3) → ((thP U (hyR az) n).2 ≠ 0) → ((500 + 17 - x3 : Int).toNat < N) → vm_Wp 7 181 102 83 [some (.ref 238), none, some (.int (vz x2)), some (.int (vz x3)), none] [] vh (vq_P 102 (fun r v1 => ∃ (sc1 : Nat → Int) (ai1 : Nat → Nat → Int) (al1 : Nat → Nat → Int64) (az1 : Nat → Nat → Int32), (((thP U (hyR az) n).2 = 0 ∧ sc1 = u1 sc 0 0 ∧ ai1 = ai ∧ al1 = al ∧ az1 = az ∧ r = some (.int (vz (-1)))) ∨ ((thP U (hyR az) n).2 ≠ 0 ∧ deR fr V nv (deP fr nv (thP U (hyR az) n).1 (thP U (hyR az) n).2) sc sc1 ai ai1 al al1 az az1 ∧ r = some (.int (vz (deP fr nv (thP U (hyR az) n).1 (thP U (hyR az) n).2).1.1)))) ∧ tmok ai1 ∧ tm sc1 ai1 al1 az1 v0 v1))) ∧ (∀ (vh : vm_H) (sc_ : Nat → Int) (ai_ : Nat → Nat → Int) (al_ : Nat → Nat → Int64) (az_ : Nat → Nat → Int32) (x3 : Int), (tm sc_ ai_ al_ az_ v0 vh) → (tmok ai_) → (0 ≤ x3 ∧ x3 ≤ 3) → (dcJ fr V nv (thP U (hyR az) n).1 (thP U (hyR az) n).2 sc sc_ ai ai_ al al_ az az_ x3) → ((thP U (hyR az) n).2 ≠ 0) → ((100 + 13 - sc_ 14 : Int).toNat < N) → vm_Wp 7 181 102 196 [some (.ref 238), none, none, some (.int (vz x3)), none] [] vh (vq_P 102 (fun r v1 => ∃ (sc1 : Nat → Int) (ai1 : Nat → Nat → Int) (al1 : Nat → Nat → Int64) (az1 : Nat → Nat → Int32), (((thP U (hyR az) n).2 = 0 ∧ sc1 = u1 sc 0 0 ∧ ai1 = ai ∧ al1 = al ∧ az1 = az ∧ r = some (.int (vz (-1)))) ∨ ((thP U (hyR az) n).2 ≠ 0 ∧ deR fr V nv (deP fr nv (thP U (hyR az) n).1 (thP U (hyR az) n).2) sc sc1 ai ai1 al al1 az az1 ∧ r = some (.int (vz (deP fr nv (thP U (hyR az) n).1 (thP U (hyR az) n).2).1.1)))) ∧ tmok ai1 ∧ tm sc1 ai1 al1 az1 v0 v1))) ∧ (∀ (vh : vm_H) (sc_ : Nat → Int) (ai_ : Nat → Nat → Int) (al_ : Nat → Nat → Int64) (az_ : Nat → Nat → Int32) (x3 : Int) (x4 : Int), (tm sc_ ai_ al_ az_ v0 vh) → (tmok ai_) → (0 ≤ x3 ∧ x3 ≤ 3) → (0 ≤ x4 ∧ x4 ≤ sc_ 40) → (∃ t k, (t.1 = 1 ∧ deP fr nv (thP U (hyR az) n).1 (thP U (hyR az) n).2 = (t, k)) ∧ d4I fr V nv t k sc sc_ ai ai_ al al_ az az_ x4) → (x3 = 1) → ((thP U (hyR az) n).2 ≠ 0) → ((9 - x4 : Int).toNat < N) → vm_Wp 7 181 102 247 [some (.ref 238), none, none, some (.int (vz x3)), some (.int (vz x4))] [] vh (vq_P 102 (fun r v1 => ∃ (sc1 : Nat → Int) (ai1 : Nat → Nat → Int) (al1 : Nat → Nat → Int64) (az1 : Nat → Nat → Int32), (((thP U (hyR az) n).2 = 0 ∧ sc1 = u1 sc 0 0 ∧ ai1 = ai ∧ al1 = al ∧ az1 = az ∧ r = some (.int (vz (-1)))) ∨ ((thP U (hyR az) n).2 ≠ 0 ∧ deR fr V nv (deP fr nv (thP U (hyR az) n).1 (thP U (hyR az) n).2) sc sc1 ai ai1 al al1 az az1 ∧ r = some (.int (vz (deP fr nv (thP U (hyR az) n).1 (thP U (hyR az) n).2).1.1)))) ∧ tmok ai1 ∧ tm sc1 ai1 al1 az1 v0 v1))) := by
  intro N
  induction N with
  | zero => exact ⟨by intros; omega, by intros; omega, by intros; omega, by intros; omega⟩
  | succ N ih =>
    refine ⟨?_, ?_, ?_, ?_⟩
    ·
      intro vh sc_ x1 x2 hM hx1 hx2 hi0q hi1 hN
      have h4_ : sc_ 4 = (n : Int) := by rw [hi0q, u1_o (by decide)]; exact h4
      refine w_ldI e102_9 (fun _ => rfl) rfl ?_
      refine w_ldA e102_10 (fun _ => rfl) rfl ?_
      have e8 := tm_o hM
      refine w_get e102_11 e8 rfl ?_
      refine w_ic e102_14 (by omega) (tm_s hM 4) (fun (h9 : sc_ 4 ≤ x2) => ?_) (fun (h9 : x2 < sc_ 4) => ?_)
      ·
        refine w_ldI e102_49 (fun _ => rfl) rfl ?_
        refine w_if e102_50 (by omega) (fun (h10 : x1 ≠ 0) => ?_) (fun (h10 : x1 = 0) => ?_)
        ·
          refine w_ldA e102_55 (fun _ => rfl) rfl ?_
          refine w_cv e102_56 (by decide) rfl e8 rfl (Nat.le_of_ble_eq_true rfl) (Nat.le_of_ble_eq_true rfl) (Nat.le_of_ble_eq_true rfl) (by decide) (by decide) (c101 hM hK) (fun o11 v12 hq13 => ?_)
          obtain ⟨hM14, rfl⟩ := hq13
          refine w_ldA e102_59 (fun _ => rfl) rfl ?_
          refine w_kI e102_60 ?_
          have e15 := tm_o hM14
          refine w_put e102_61 e15 (Nat.le_of_ble_eq_true rfl) (vz_okz (by omega)) (fun v18 b16 h17 => ?_)
          obtain ⟨sc19, hd21, hM20⟩ : ∃ z, z = u1 (fgS sc_) 13 (0) ∧ tm z ai al az v0 v18 := ⟨_, rfl, tm_ps 13 hM14 (by omega) b16 h17⟩
          refine w_ldA e102_64 (fun _ => rfl) rfl ?_
          refine w_kI e102_65 ?_
          have e22 := tm_o hM20
          refine w_put e102_66 e22 (Nat.le_of_ble_eq_true rfl) rfl (fun v25 b23 h24 => ?_)
          obtain ⟨sc26, hd28, hM27⟩ : ∃ z, z = u1 sc19 14 (0) ∧ tm z ai al az v0 v25 := ⟨_, rfl, tm_ps 14 hM20 (by omega) b23 h24⟩
          refine w_ldA e102_69 (fun _ => rfl) rfl ?_
          refine w_kI e102_70 ?_
          have e29 := tm_o hM27
          refine w_put e102_71 e29 (Nat.le_of_ble_eq_true rfl) rfl (fun v32 b30 h31 => ?_)
          obtain ⟨sc33, hd35, hM34⟩ : ∃ z, z = u1 sc26 16 (0) ∧ tm z ai al az v0 v32 := ⟨_, rfl, tm_ps 16 hM27 (by omega) b30 h31⟩
          refine w_ldA e102_74 (fun _ => rfl) rfl ?_
          refine w_kI e102_75 ?_
          have e36 := tm_o hM34
          refine w_put e102_76 e36 (Nat.le_of_ble_eq_true rfl) rfl (fun v39 b37 h38 => ?_)
          obtain ⟨sc40, hd42, hM41⟩ : ∃ z, z = u1 sc33 42 (0) ∧ tm z ai al az v0 v39 := ⟨_, rfl, tm_ps 42 hM34 (by omega) b37 h38⟩
          have hd0 := d0_i hi0q hd21 hd28 hd35 hd42
          refine w_kI e102_79 ?_
          refine w_stI (j := 2) (A1 := [some (.ref 238), some (.int (vz x1)), some (.int (vz (-1))), none, none]) e102_80 (fun _ => rfl) (by decide) rfl ?_
          refine w_kI e102_81 ?_
          refine w_stI (j := 3) (A1 := [some (.ref 238), some (.int (vz x1)), some (.int (vz (-1))), some (.int (vz 0)), none]) e102_82 (fun _ => rfl) (by decide) rfl ?_
          exact w_sub (A1 := [some (.ref 238), none, some (.int (vz (-1))), some (.int (vz 0)), none]) (And.intro rfl (And.intro rfl (And.intro rfl trivial))) ((ih.2.1) v39 sc40 ai al (-1) 0 hM41 hK (by omega) (by omega) ⟨sc40, hd0, tj_0 hd0⟩ (by have h9 := hi1; rw [show (x2).toNat = n by omega] at h9; omega) (by omega))
        ·
          refine w_kI e102_53 ?_
          exact w_ri e102_54 rfl ⟨sc_, ai, al, az, Or.inl ⟨by have h9 := hi1; rw [show (x2).toNat = n by omega] at h9; omega, hi0q, rfl, rfl, rfl, rfl⟩, hK, hM⟩
      ·
        refine w_ldI e102_17 (fun _ => rfl) rfl ?_
        refine w_ldA e102_18 (fun _ => rfl) rfl ?_
        refine w_get e102_19 e8 rfl ?_
        refine w_ldI e102_22 (fun _ => rfl) rfl ?_
        have e43 := tm_z hM (a := 241) (n := 16) rfl
        refine w_zldO e102_23 e43 (by omega) (by omega) (by decide) (fun q44 h45 h46 => ?_)
        refine w_if e102_24 h45 (fun (h47 : q44 = 0) => ?_) (fun (h47 : q44 ≠ 0) => ?_)
        ·
          refine w_kI e102_40 ?_
          refine w_iadd e102_41 ?_
          refine w_stI (j := 1) (A1 := [some (.ref 238), some (.int (vz (x1 + 0))), some (.int (vz x2)), none, none]) e102_42 (fun _ => rfl) (by decide) rfl ?_
          refine w_iinc (A1 := [some (.ref 238), some (.int (vz (x1 + 0))), some (.int (vz (x2 + 1))), none, none]) e102_43 rfl (by decide) rfl ?_
          refine w_x e102_46 (fun _ => rfl) ?_
          exact w_sub (A1 := [some (.ref 238), some (.int (vz (x1 + 0))), some (.int (vz (x2 + 1))), none, none]) (And.intro rfl (And.intro rfl (And.intro rfl trivial))) ((ih.1) vh sc_ (x1 + 0) (x2 + 1) hM (by omega) (by omega) hi0q (cd_n hi1 (by omega) (fun z => absurd ((hyR_q h46 h45).mp z.1) (by omega))) (by omega))
        ·
          refine w_ldA e102_27 (fun _ => rfl) rfl ?_
          refine w_get e102_28 e8 rfl ?_
          refine w_ldI e102_31 (fun _ => rfl) rfl ?_
          have e48 := tm_i hM (a := 242) (n := 72) rfl
          refine w_ald e102_32 e48 (by omega) (by omega) (by decide) ?_
          show vm_Wp _ _ _ 33 _ [.int (vz (ai 242 (x2).toNat)), .int (vz x1)] _ _
          have hk49 := hK.1 (x2).toNat
          refine w_if e102_33 (tm_r hM 242 (x2).toNat) (fun (h50 : ai 242 (x2).toNat ≤ 0) => ?_) (fun (h50 : 0 < ai 242 (x2).toNat) => ?_)
          ·
            refine w_kI e102_40 ?_
            refine w_iadd e102_41 ?_
            refine w_stI (j := 1) (A1 := [some (.ref 238), some (.int (vz (x1 + 0))), some (.int (vz x2)), none, none]) e102_42 (fun _ => rfl) (by decide) rfl ?_
            refine w_iinc (A1 := [some (.ref 238), some (.int (vz (x1 + 0))), some (.int (vz (x2 + 1))), none, none]) e102_43 rfl (by decide) rfl ?_
            refine w_x e102_46 (fun _ => rfl) ?_
            exact w_sub (A1 := [some (.ref 238), some (.int (vz (x1 + 0))), some (.int (vz (x2 + 1))), none, none]) (And.intro rfl (And.intro rfl (And.intro rfl trivial))) ((ih.1) vh sc_ (x1 + 0) (x2 + 1) hM (by omega) (by omega) hi0q (cd_n hi1 (by omega) (fun z => by have h9 := (us_ne hU (by omega)).mp z.2; omega)) (by omega))
          ·
            refine w_kI e102_36 ?_
            refine w_x e102_37 (fun _ => rfl) ?_
            refine w_iadd e102_41 ?_
            refine w_stI (j := 1) (A1 := [some (.ref 238), some (.int (vz (x1 + 1))), some (.int (vz x2)), none, none]) e102_42 (fun _ => rfl) (by decide) rfl ?_
            refine w_iinc (A1 := [some (.ref 238), some (.int (vz (x1 + 1))), some (.int (vz (x2 + 1))), none, none]) e102_43 rfl (by decide) rfl ?_
            refine w_x e102_46 (fun _ => rfl) ?_
            exact w_sub (A1 := [some (.ref 238), some (.int (vz (x1 + 1))), some (.int (vz (x2 + 1))), none, none]) (And.intro rfl (And.intro rfl (And.intro rfl trivial))) ((ih.1) vh sc_ (x1 + 1) (x2 + 1) hM (by omega) (by omega) hi0q (cd_y hi1 (by omega) ⟨(hyR_q h46 h45).mpr (by omega), (us_ne hU (by omega)).mpr (by omega)⟩) (by omega))
    ·
      intro vh sc_ ai_ al_ x2 x3 hM hK_ hx2 hx3 hi0q hi1 hN
      have hi0b := hi0q
      obtain ⟨s0, hd0, hJ⟩ := hi0b
      have hle := th_le (U := U) (h := hyR az) (x3).toNat
      have hlen := th_le (U := U) (h := hyR az) n
      have h42_ := hJ.1.1
      have h4_ : sc_ 4 = (n : Int) := by rw [hJ.1.2 4 (by decide), hd0.2.2 4 (by omega)]; exact h4
      have hv_ : sc_ 1 = (nv : Int) := by rw [hJ.1.2 1 (by decide), hd0.2.2 1 (by omega)]; exact hv
      have haK := hJ.2.2.2.1
      have hvr_ : vR ai_ = V := (aK_vR haK).trans hvr
      have hfr_ : frR az ai_ = fr := (aK_fr haK).trans hfr
      have hU_ := usQ_a hU hn16 hK haK
      have hVn := hV.1
      refine w_ldI e102_83 (fun _ => rfl) rfl ?_
      refine w_ldA e102_84 (fun _ => rfl) rfl ?_
      have e51 := tm_o hM
      refine w_get e102_85 e51 rfl ?_
      refine w_ic e102_88 (by omega) (tm_s hM 4) (fun (h52 : sc_ 4 ≤ x3) => ?_) (fun (h52 : x3 < sc_ 4) => ?_)
      ·
        have hJn := hJ
        rw [show x3 = (n : Int) by omega] at hJn
        refine w_ldA e102_175 (fun _ => rfl) rfl ?_
        refine w_ldA e102_176 (fun _ => rfl) rfl ?_
        refine w_get e102_177 e51 rfl ?_
        refine w_put e102_180 e51 (Nat.le_of_ble_eq_true rfl) rfl (fun v55 b53 h54 => ?_)
        obtain ⟨sc56, hd58, hM57⟩ : ∃ z, z = u1 sc_ 15 (sc_ 42) ∧ tm z ai_ al_ az v0 v55 := ⟨_, rfl, tm_ps 15 hM (tm_s hM 42) b53 h54⟩
        have hz14 : sc56 14 = 0 := by rw [hd58, u1_o (by decide), hJ.1.2 14 (by decide)]; exact hd0.2.1.2.1
        refine w_ldI e102_183 (fun _ => rfl) rfl ?_
        refine w_if e102_184 (by omega) (fun (h59 : x2 < 0) => ?_) (fun (h59 : 0 ≤ x2) => ?_)
        ·
          refine w_kI e102_194 ?_
          refine w_stI (j := 3) (A1 := [some (.ref 238), none, some (.int (vz x2)), some (.int (vz 3)), none]) e102_195 (fun _ => rfl) (by decide) rfl ?_
          exact w_sub (A1 := [some (.ref 238), none, none, some (.int (vz 3)), none]) (And.intro rfl (And.intro rfl trivial)) ((ih.2.2.1) v55 sc56 ai_ al_ az 3 hM57 hK_ (by omega) (dj_0 hd0 hJn hn16 (by omega) hG hd58) hi1 (by omega))
        ·
          obtain ⟨r9, hr9, hz9, hf9, hq9⟩ := tj_f hJn (by omega)
          refine w_ldA e102_187 (fun _ => rfl) rfl ?_
          refine w_ldI e102_188 (fun _ => rfl) rfl ?_
          have e60 := tm_o hM57
          refine w_cv e102_189 (by decide) rfl e60 rfl (Nat.le_of_ble_eq_true rfl) (Nat.le_of_ble_eq_true rfl) (Nat.le_of_ble_eq_true rfl) (by decide) (by decide) (r99 hM57 hK_ (by omega) (V := V) (nv := nv) (l := (thP U (hyR az) n).1 r9) (by rw [show (x2).toNat = 16 + r9 by omega]; exact hq9) (by omega)) (fun o61 v62 hq63 => ?_)
          obtain ⟨⟨sc64, ai65, al66, ⟨hc67, hd68⟩, hK69, hM70⟩, rfl⟩ := hq63
          refine w_kI e102_192 ?_
          exact w_ri e102_193 rfl ⟨sc64, ai65, al66, az, Or.inr ⟨hi1, by have h9 := dt_e hd0 hJn hr9 hf9 hd58 rfl hc67 hd68; exact ⟨h9.1, by rw [h9.2]⟩⟩, hK69, hM70⟩
      ·
        refine w_ldA e102_91 (fun _ => rfl) rfl ?_
        refine w_get e102_92 e51 rfl ?_
        refine w_ldI e102_95 (fun _ => rfl) rfl ?_
        have e71 := tm_z hM (a := 241) (n := 16) rfl
        refine w_zldO e102_96 e71 (by omega) (by omega) (by decide) (fun q72 h73 h74 => ?_)
        refine w_if e102_97 h73 (fun (h75 : q72 = 0) => ?_) (fun (h75 : q72 ≠ 0) => ?_)
        ·
          refine w_iinc (A1 := [some (.ref 238), none, some (.int (vz x2)), some (.int (vz (x3 + 1))), none]) e102_169 rfl (by decide) rfl ?_
          refine w_x e102_172 (fun _ => rfl) ?_
          exact w_sub (A1 := [some (.ref 238), none, some (.int (vz x2)), some (.int (vz (x3 + 1))), none]) (And.intro rfl (And.intro rfl (And.intro rfl trivial))) ((ih.2.1) vh sc_ ai_ al_ x2 (x3 + 1) hM hK_ (by omega) (by omega) ⟨s0, hd0, tj_n hJ (by omega) (fun z => absurd ((hyR_q h74 h73).mp z.1) (by omega))⟩ hi1 (by omega))
        ·
          refine w_ldA e102_100 (fun _ => rfl) rfl ?_
          refine w_get e102_101 e51 rfl ?_
          refine w_ldI e102_104 (fun _ => rfl) rfl ?_
          have e76 := tm_i hM (a := 242) (n := 72) rfl
          refine w_ald e102_105 e76 (by omega) (by omega) (by decide) ?_
          show vm_Wp _ _ _ 106 _ [.int (vz (ai_ 242 (x3).toNat))] _ _
          have hk77 := hK_.1 (x3).toNat
          refine w_if e102_106 (tm_r hM 242 (x3).toNat) (fun (h78 : ai_ 242 (x3).toNat ≤ 0) => ?_) (fun (h78 : 0 < ai_ 242 (x3).toNat) => ?_)
          ·
            refine w_iinc (A1 := [some (.ref 238), none, some (.int (vz x2)), some (.int (vz (x3 + 1))), none]) e102_169 rfl (by decide) rfl ?_
            refine w_x e102_172 (fun _ => rfl) ?_
            exact w_sub (A1 := [some (.ref 238), none, some (.int (vz x2)), some (.int (vz (x3 + 1))), none]) (And.intro rfl (And.intro rfl (And.intro rfl trivial))) ((ih.2.1) vh sc_ ai_ al_ x2 (x3 + 1) hM hK_ (by omega) (by omega) ⟨s0, hd0, tj_n hJ (by omega) (fun z => by have h9 := (us_ne hU_ (by omega)).mp z.2; omega)⟩ hi1 (by omega))
          ·
            refine w_ldA e102_109 (fun _ => rfl) rfl ?_
            refine w_ldI e102_110 (fun _ => rfl) rfl ?_
            refine w_kB e102_111 rfl ?_
            refine w_ldA e102_113 (fun _ => rfl) rfl ?_
            refine w_get e102_114 e51 rfl ?_
            refine w_iadd e102_117 ?_
            refine w_cv e102_118 (by decide) rfl e51 rfl (Nat.le_of_ble_eq_true rfl) (Nat.le_of_ble_eq_true rfl) (Nat.le_of_ble_eq_true rfl) (by decide) (by decide) (r81 hM hK_ (by omega) (by omega) (hU_ (x3).toNat (by omega)).1 (by omega)) (fun o79 v80 hq81 => ?_)
            obtain ⟨⟨al82, ai83, hc84, hK85, hM86⟩, rfl⟩ := hq81
            have hcp : cpQ V nv ai_ ai83 al_ al82 (16 + (thP U (hyR az) (x3).toNat).2) (U (x3).toNat) := by have h9 := hc84; rw [show (16 + (sc_ 42)).toNat = 16 + (thP U (hyR az) (x3).toNat).2 by omega] at h9; exact h9
            have hak2 := aK_cp (az := az) hcp (by omega)
            have hvr2 : vR ai83 = V := (aK_vR hak2).trans hvr_
            have hfr2 : frR az ai83 = fr := (aK_fr hak2).trans hfr_
            refine w_ldA e102_121 (fun _ => rfl) rfl ?_
            refine w_kB e102_122 rfl ?_
            refine w_ldA e102_124 (fun _ => rfl) rfl ?_
            have e87 := tm_o hM86
            refine w_get e102_125 e87 rfl ?_
            refine w_iadd e102_128 ?_
            refine w_cv e102_129 (by decide) rfl e87 rfl (Nat.le_of_ble_eq_true rfl) (Nat.le_of_ble_eq_true rfl) (Nat.le_of_ble_eq_true rfl) (by decide) (by decide) (r83 hM86 hK85 (by omega) (V := V) (nv := nv) (l := U (x3).toNat) (by rw [show (16 + (sc_ 42)).toNat = 16 + (thP U (hyR az) (x3).toNat).2 by omega]; exact hcp.2.2) (hU_ (x3).toNat (by omega)).2) (fun o88 v89 hq90 => ?_)
            obtain ⟨⟨al91, hp92, hM93⟩, rfl⟩ := hq90
            have hpr : prR V nv ai83 al82 al91 (16 + (thP U (hyR az) (x3).toNat).2) (prP (U (x3).toNat)) := by have h9 := hp92; rw [show (16 + (sc_ 42)).toNat = 16 + (thP U (hyR az) (x3).toNat).2 by omega] at h9; exact h9
            refine w_ldI e102_132 (fun _ => rfl) rfl ?_
            refine w_if e102_133 (by omega) (fun (h94 : 0 ≤ x2) => ?_) (fun (h94 : x2 < 0) => ?_)
            ·
              refine w_ldA e102_159 (fun _ => rfl) rfl ?_
              refine w_x e102_160 (fun _ => rfl) ?_
              have e95 := tm_o hM93
              refine w_get e102_161 e95 rfl ?_
              refine w_kI e102_164 ?_
              refine w_iadd e102_165 ?_
              refine w_put e102_166 e95 (Nat.le_of_ble_eq_true rfl) rfl (fun v98 b96 h97 => ?_)
              obtain ⟨sc99, hd101, hM100⟩ : ∃ z, z = u1 sc_ 42 ((sc_ 42) + 1) ∧ tm z ai83 al91 az v0 v98 := ⟨_, rfl, tm_ps 42 hM93 (by omega) b96 h97⟩
              refine w_iinc (A1 := [some (.ref 238), none, some (.int (vz x2)), some (.int (vz (x3 + 1))), none]) e102_169 rfl (by decide) rfl ?_
              refine w_x e102_172 (fun _ => rfl) ?_
              exact w_sub (A1 := [some (.ref 238), none, some (.int (vz x2)), some (.int (vz (x3 + 1))), none]) (And.intro rfl (And.intro rfl (And.intro rfl trivial))) ((ih.2.1) v98 sc99 ai83 al91 x2 (x3 + 1) hM100 hK85 (by omega) (by omega) ⟨s0, hd0, tj_y hJ (by omega) ⟨(hyR_q h74 h73).mpr (by omega), (us_ne hU_ (by omega)).mpr (by omega)⟩ hK_ hK85 hcp hpr (hU_ _ (by omega)).2 hd101 rfl (Or.inl ⟨rfl, Or.inl (by omega)⟩)⟩ hi1 (by omega))
            ·
              refine w_ldA e102_136 (fun _ => rfl) rfl ?_
              refine w_kB e102_137 rfl ?_
              refine w_ldA e102_139 (fun _ => rfl) rfl ?_
              have e102 := tm_o hM93
              refine w_get e102_140 e102 rfl ?_
              refine w_iadd e102_143 ?_
              refine w_cv e102_144 (by decide) rfl e102 rfl (Nat.le_of_ble_eq_true rfl) (Nat.le_of_ble_eq_true rfl) (Nat.le_of_ble_eq_true rfl) (by decide) (by decide) (c86 hM93 hK85 (by omega) (by omega)) (fun o103 v104 hq105 => ?_)
              obtain ⟨rfl, rfl⟩ := hq105
              have hp106 := mpf_bd (az 239) (ai83 240) (fun v => dgf (al91 244) (60 * (16 + (sc_ 42))).toNat v (ai83 242 (16 + (sc_ 42)).toNat).toNat) (sc_ 1).toNat
              show vm_Wp _ _ _ 147 _ [.int (vz (mpf (az 239) (ai83 240) (fun v => dgf (al91 244) (60 * (16 + (sc_ 42))).toNat v (ai83 242 (16 + (sc_ 42)).toNat).toNat) (sc_ 1).toNat))] _ _
              have hmp : mpf (az 239) (ai83 240) (fun v => dgf (al91 244) (60 * (16 + (sc_ 42))).toNat v (ai83 242 (16 + (sc_ 42)).toNat).toNat) (sc_ 1).toNat = plP fr nv (prP (U (x3).toNat)) := by rw [re_mp hpr.2.2 hV hvr2 hK85 hv_ (by omega), hfr2]
              refine w_kI e102_147 ?_
              refine w_ic e102_148 (by omega) (by omega) (fun (h107 : mpf (az 239) (ai83 240) (fun v => dgf (al91 244) (60 * (16 + (sc_ 42))).toNat v (ai83 242 (16 + (sc_ 42)).toNat).toNat) (sc_ 1).toNat ≠ -1) => ?_) (fun (h107 : mpf (az 239) (ai83 240) (fun v => dgf (al91 244) (60 * (16 + (sc_ 42))).toNat v (ai83 242 (16 + (sc_ 42)).toNat).toNat) (sc_ 1).toNat = -1) => ?_)
              ·
                refine w_ldA e102_159 (fun _ => rfl) rfl ?_
                refine w_x e102_160 (fun _ => rfl) ?_
                refine w_get e102_161 e102 rfl ?_
                refine w_kI e102_164 ?_
                refine w_iadd e102_165 ?_
                refine w_put e102_166 e102 (Nat.le_of_ble_eq_true rfl) rfl (fun v110 b108 h109 => ?_)
                obtain ⟨sc111, hd113, hM112⟩ : ∃ z, z = u1 sc_ 42 ((sc_ 42) + 1) ∧ tm z ai83 al91 az v0 v110 := ⟨_, rfl, tm_ps 42 hM93 (by omega) b108 h109⟩
                refine w_iinc (A1 := [some (.ref 238), none, some (.int (vz x2)), some (.int (vz (x3 + 1))), none]) e102_169 rfl (by decide) rfl ?_
                refine w_x e102_172 (fun _ => rfl) ?_
                exact w_sub (A1 := [some (.ref 238), none, some (.int (vz x2)), some (.int (vz (x3 + 1))), none]) (And.intro rfl (And.intro rfl (And.intro rfl trivial))) ((ih.2.1) v110 sc111 ai83 al91 x2 (x3 + 1) hM112 hK85 (by omega) (by omega) ⟨s0, hd0, tj_y hJ (by omega) ⟨(hyR_q h74 h73).mpr (by omega), (us_ne hU_ (by omega)).mpr (by omega)⟩ hK_ hK85 hcp hpr (hU_ _ (by omega)).2 hd113 rfl (Or.inl ⟨rfl, Or.inr (by omega)⟩)⟩ hi1 (by omega))
              ·
                refine w_kB e102_151 rfl ?_
                refine w_ldA e102_153 (fun _ => rfl) rfl ?_
                refine w_get e102_154 e102 rfl ?_
                refine w_iadd e102_157 ?_
                refine w_stI (j := 2) (A1 := [some (.ref 238), none, some (.int (vz (16 + (sc_ 42)))), some (.int (vz x3)), none]) e102_158 (fun _ => rfl) (by decide) rfl ?_
                refine w_ldA e102_159 (fun _ => rfl) rfl ?_
                refine w_x e102_160 (fun _ => rfl) ?_
                refine w_get e102_161 e102 rfl ?_
                refine w_kI e102_164 ?_
                refine w_iadd e102_165 ?_
                refine w_put e102_166 e102 (Nat.le_of_ble_eq_true rfl) rfl (fun v116 b114 h115 => ?_)
                obtain ⟨sc117, hd119, hM118⟩ : ∃ z, z = u1 sc_ 42 ((sc_ 42) + 1) ∧ tm z ai83 al91 az v0 v116 := ⟨_, rfl, tm_ps 42 hM93 (by omega) b114 h115⟩
                refine w_iinc (A1 := [some (.ref 238), none, some (.int (vz (16 + (sc_ 42)))), some (.int (vz (x3 + 1))), none]) e102_169 rfl (by decide) rfl ?_
                refine w_x e102_172 (fun _ => rfl) ?_
                exact w_sub (A1 := [some (.ref 238), none, some (.int (vz (16 + (sc_ 42)))), some (.int (vz (x3 + 1))), none]) (And.intro rfl (And.intro rfl (And.intro rfl trivial))) ((ih.2.1) v116 sc117 ai83 al91 (16 + (sc_ 42)) (x3 + 1) hM118 hK85 (by omega) (by omega) ⟨s0, hd0, tj_y hJ (by omega) ⟨(hyR_q h74 h73).mpr (by omega), (us_ne hU_ (by omega)).mpr (by omega)⟩ hK_ hK85 hcp hpr (hU_ _ (by omega)).2 hd119 rfl (Or.inr ⟨rfl, by omega, by omega⟩)⟩ hi1 (by omega))
    ·
      intro vh sc_ ai_ al_ az_ x3 hM hK_ hx3 hi0q hi1 hN
      have hi0b := hi0q
      obtain ⟨t, k, hx9, ⟨hxr, hno⟩, hSq, he, hD⟩ := hi0b
      have hk9 := hSq.1.2.2.1
      have hk12 := hSq.1.2.2.2
      have hvr_ : vR ai_ = V := (aK_vR hD.2).trans hvr
      have hfr_ : frR az_ ai_ = fr := (aK_fr hD.2).trans hfr
      have hv_ : sc_ 1 = (nv : Int) := by rw [hD.1 1 (by omega)]; exact hv
      have h42_ := hSq.1.1.1
      have hVn := hV.1
      refine w_ldI e102_196 (fun _ => rfl) rfl ?_
      refine w_kI e102_197 ?_
      refine w_ic e102_198 (by omega) (by omega) (fun (h120 : x3 ≠ 3) => ?_) (fun (h120 : x3 = 3) => ?_)
      ·
        refine w_ldA e102_218 (fun _ => rfl) rfl ?_
        refine w_ldA e102_219 (fun _ => rfl) rfl ?_
        have e121 := tm_o hM
        refine w_get e102_220 e121 rfl ?_
        refine w_put e102_223 e121 (Nat.le_of_ble_eq_true rfl) rfl (fun v124 b122 h123 => ?_)
        obtain ⟨sc125, hd127, hM126⟩ : ∃ z, z = u1 sc_ 15 (sc_ 42) ∧ tm z ai_ al_ az_ v0 v124 := ⟨_, rfl, tm_ps 15 hM (tm_s hM 42) b122 h123⟩
        refine w_ldI e102_226 (fun _ => rfl) rfl ?_
        refine w_kI e102_227 ?_
        refine w_ic e102_228 (by omega) (by omega) (fun (h128 : x3 ≠ 1) => ?_) (fun (h128 : x3 = 1) => ?_)
        ·
          refine w_ldI e102_278 (fun _ => rfl) rfl ?_
          refine w_kI e102_279 ?_
          refine w_ic e102_280 (by omega) (by omega) (fun (h129 : x3 ≠ 3) => ?_) (fun (h129 : x3 = 3) => ?_)
          ·
            refine w_ldI e102_287 (fun _ => rfl) rfl ?_
            exact w_ri e102_288 rfl ⟨sc125, ai_, al_, az_, Or.inr ⟨hi1, by have h9 := dj_e (q := x3) hSq hno he hD hx9 hd127 rfl (by omega) (Or.inr ⟨by omega, rfl⟩); exact ⟨h9.1, by rw [h9.2]⟩⟩, hK_, hM126⟩
          ·
            refine w_kI e102_283 ?_
            refine w_x e102_284 (fun _ => rfl) ?_
            exact w_ri e102_288 rfl ⟨sc125, ai_, al_, az_, Or.inr ⟨hi1, by have h9 := dj_e (q := 2) hSq hno he hD hx9 hd127 rfl (by omega) (Or.inl ⟨by omega, rfl, by omega⟩); exact ⟨h9.1, by rw [h9.2]⟩⟩, hK_, hM126⟩
        ·
          refine w_ldA e102_231 (fun _ => rfl) rfl ?_
          refine w_kI e102_232 ?_
          have e130 := tm_o hM126
          refine w_put e102_233 e130 (Nat.le_of_ble_eq_true rfl) (vz_okz (by omega)) (fun v133 b131 h132 => ?_)
          obtain ⟨sc134, hd136, hM135⟩ : ∃ z, z = u1 sc125 10 (1) ∧ tm z ai_ al_ az_ v0 v133 := ⟨_, rfl, tm_ps 10 hM126 (by omega) b131 h132⟩
          refine w_ldA e102_236 (fun _ => rfl) rfl ?_
          refine w_ldA e102_237 (fun _ => rfl) rfl ?_
          have e137 := tm_o hM135
          refine w_get e102_238 e137 rfl ?_
          refine w_put e102_241 e137 (Nat.le_of_ble_eq_true rfl) rfl (fun v140 b138 h139 => ?_)
          obtain ⟨sc141, hd143, hM142⟩ : ∃ z, z = u1 sc134 11 (sc134 40) ∧ tm z ai_ al_ az_ v0 v140 := ⟨_, rfl, tm_ps 11 hM135 (tm_s hM135 40) b138 h139⟩
          have hs40 : sc141 40 = sc_ 40 := by rw [hd143, u1_o (by decide), hd136, u1_o (by decide), hd127, u1_o (by decide)]
          have hmb0 := (hSq.2.2.1 (by omega)).1.1
          refine w_kI e102_244 ?_
          refine w_stI (j := 4) (A1 := [some (.ref 238), none, none, some (.int (vz x3)), some (.int (vz 0))]) e102_245 (fun _ => rfl) (by decide) rfl ?_
          exact w_sub (A1 := [some (.ref 238), none, none, some (.int (vz x3)), some (.int (vz 0))]) (And.intro rfl (And.intro rfl (And.intro rfl trivial))) ((ih.2.2.2) v140 sc141 ai_ al_ az_ x3 0 hM142 hK_ (by omega) (by omega) ⟨t, k, ⟨by omega, by rw [he, if_neg (by omega)]⟩, d4_0 hSq (by omega) hD hd127 rfl hd136 hd143 rfl⟩ (by omega) hi1 (by omega))
      ·
        refine w_ldA e102_201 (fun _ => rfl) rfl ?_
        have e144 := tm_o hM
        refine w_get e102_202 e144 rfl ?_
        refine w_kB e102_205 rfl ?_
        refine w_ic e102_207 (tm_s hM 14) (by omega) (fun (h145 : 12 ≤ sc_ 14) => ?_) (fun (h145 : sc_ 14 < 12) => ?_)
        ·
          refine w_ldA e102_218 (fun _ => rfl) rfl ?_
          refine w_ldA e102_219 (fun _ => rfl) rfl ?_
          refine w_get e102_220 e144 rfl ?_
          refine w_put e102_223 e144 (Nat.le_of_ble_eq_true rfl) rfl (fun v148 b146 h147 => ?_)
          obtain ⟨sc149, hd151, hM150⟩ : ∃ z, z = u1 sc_ 15 (sc_ 42) ∧ tm z ai_ al_ az_ v0 v148 := ⟨_, rfl, tm_ps 15 hM (tm_s hM 42) b146 h147⟩
          refine w_ldI e102_226 (fun _ => rfl) rfl ?_
          refine w_kI e102_227 ?_
          refine w_ic e102_228 (by omega) (by omega) (fun (h152 : x3 ≠ 1) => ?_) (fun (h152 : x3 = 1) => ?_)
          ·
            refine w_ldI e102_278 (fun _ => rfl) rfl ?_
            refine w_kI e102_279 ?_
            refine w_ic e102_280 (by omega) (by omega) (fun (h153 : x3 ≠ 3) => ?_) (fun (h153 : x3 = 3) => ?_)
            ·
              refine w_ldI e102_287 (fun _ => rfl) rfl ?_
              exact w_ri e102_288 rfl ⟨sc149, ai_, al_, az_, Or.inr ⟨hi1, by have h9 := dj_e (q := x3) hSq hno he hD hx9 hd151 rfl (by omega) (Or.inr ⟨by omega, rfl⟩); exact ⟨h9.1, by rw [h9.2]⟩⟩, hK_, hM150⟩
            ·
              refine w_kI e102_283 ?_
              refine w_x e102_284 (fun _ => rfl) ?_
              exact w_ri e102_288 rfl ⟨sc149, ai_, al_, az_, Or.inr ⟨hi1, by have h9 := dj_e (q := 2) hSq hno he hD hx9 hd151 rfl (by omega) (Or.inl ⟨by omega, rfl, by omega⟩); exact ⟨h9.1, by rw [h9.2]⟩⟩, hK_, hM150⟩
          ·
            refine w_ldA e102_231 (fun _ => rfl) rfl ?_
            refine w_kI e102_232 ?_
            have e154 := tm_o hM150
            refine w_put e102_233 e154 (Nat.le_of_ble_eq_true rfl) (vz_okz (by omega)) (fun v157 b155 h156 => ?_)
            obtain ⟨sc158, hd160, hM159⟩ : ∃ z, z = u1 sc149 10 (1) ∧ tm z ai_ al_ az_ v0 v157 := ⟨_, rfl, tm_ps 10 hM150 (by omega) b155 h156⟩
            refine w_ldA e102_236 (fun _ => rfl) rfl ?_
            refine w_ldA e102_237 (fun _ => rfl) rfl ?_
            have e161 := tm_o hM159
            refine w_get e102_238 e161 rfl ?_
            refine w_put e102_241 e161 (Nat.le_of_ble_eq_true rfl) rfl (fun v164 b162 h163 => ?_)
            obtain ⟨sc165, hd167, hM166⟩ : ∃ z, z = u1 sc158 11 (sc158 40) ∧ tm z ai_ al_ az_ v0 v164 := ⟨_, rfl, tm_ps 11 hM159 (tm_s hM159 40) b162 h163⟩
            have hs40 : sc165 40 = sc_ 40 := by rw [hd167, u1_o (by decide), hd160, u1_o (by decide), hd151, u1_o (by decide)]
            have hmb0 := (hSq.2.2.1 (by omega)).1.1
            refine w_kI e102_244 ?_
            refine w_stI (j := 4) (A1 := [some (.ref 238), none, none, some (.int (vz x3)), some (.int (vz 0))]) e102_245 (fun _ => rfl) (by decide) rfl ?_
            exact w_sub (A1 := [some (.ref 238), none, none, some (.int (vz x3)), some (.int (vz 0))]) (And.intro rfl (And.intro rfl (And.intro rfl trivial))) ((ih.2.2.2) v164 sc165 ai_ al_ az_ x3 0 hM166 hK_ (by omega) (by omega) ⟨t, k, ⟨by omega, by rw [he, if_neg (by omega)]⟩, d4_0 hSq (by omega) hD hd151 rfl hd160 hd167 rfl⟩ (by omega) hi1 (by omega))
        ·
          refine w_ldA e102_210 (fun _ => rfl) rfl ?_
          refine w_cv e102_211 (by decide) rfl e144 rfl (Nat.le_of_ble_eq_true rfl) (Nat.le_of_ble_eq_true rfl) (Nat.le_of_ble_eq_true rfl) (by decide) (by decide) (r100 hM hK_ hv_ hvr_ hfr_ hV hSq.2.1.1 hSq.2.1.2 hSq.1.1.2 hSq.1.1.1 hSq.1.2.1.1 hSq.1.2.1.2 hSq.2.2.2.1 (by omega)) (fun o168 v169 hq170 => ?_)
          obtain ⟨sc171, ai172, al173, az174, q175, ⟨hb176, ho177⟩, rfl, hK178, hM179⟩ := hq170
          have hs14 : sc171 14 = sc_ 14 + 1 := ho177.1.1.2.2
          refine w_stI (j := 3) (A1 := [some (.ref 238), none, none, some (.int (vz q175)), none]) e102_214 (fun _ => rfl) (by decide) rfl ?_
          refine w_x e102_215 (fun _ => rfl) ?_
          exact w_sub (A1 := [some (.ref 238), none, none, some (.int (vz q175)), none]) (And.intro rfl (And.intro rfl trivial)) ((ih.2.2.1) v169 sc171 ai172 al173 az174 q175 hM179 hK178 (by omega) (dj_s hSq hno he (by omega) (by omega) hD ho177) hi1 (by omega))
    ·
      intro vh sc_ ai_ al_ az_ x3 x4 hM hK_ hx3 hx4 hi0q hi1 hi2 hN
      have hi0b := hi0q
      obtain ⟨t, k, ⟨ht1, he⟩, hI⟩ := hi0b
      have hmb := hI.2.2.1.2
      have hmb1 := hmb.1.1
      have hmb2 := hmb.1.2
      refine w_ldI e102_247 (fun _ => rfl) rfl ?_
      refine w_ldA e102_249 (fun _ => rfl) rfl ?_
      have e180 := tm_o hM
      refine w_get e102_250 e180 rfl ?_
      refine w_ic e102_253 (by omega) (tm_s hM 40) (fun (h181 : sc_ 40 ≤ x4) => ?_) (fun (h181 : x4 < sc_ 40) => ?_)
      ·
        refine w_ldI e102_278 (fun _ => rfl) rfl ?_
        refine w_kI e102_279 ?_
        refine w_ic e102_280 (by omega) (by omega) (fun (h182 : x3 ≠ 3) => ?_) (fun (h182 : x3 = 3) => ?_)
        ·
          refine w_ldI e102_287 (fun _ => rfl) rfl ?_
          exact w_ri e102_288 rfl ⟨sc_, ai_, al_, az_, Or.inr ⟨hi2, by have h9 := d4_e hI ht1 he (by omega); exact ⟨h9.1, by rw [h9.2, show x3 = 1 from hi1]⟩⟩, hK_, hM⟩
        ·
          refine w_kI e102_283 ?_
          refine w_x e102_284 (fun _ => rfl) ?_
          exfalso; omega
      ·
        refine w_ldA e102_256 (fun _ => rfl) rfl ?_
        refine w_ldA e102_257 (fun _ => rfl) rfl ?_
        refine w_get e102_258 e180 rfl ?_
        refine w_ldI e102_261 (fun _ => rfl) rfl ?_
        have e183 := tm_i hM (a := 261) (n := 8) rfl
        refine w_ald e102_263 e183 (by omega) (by omega) (by decide) ?_
        show vm_Wp _ _ _ 264 _ [.int (vz (ai_ 261 (x4).toNat)), .ref 238] _ _
        have hb9 := mq_b hmb (x := x4) (by omega)
        have hc9 := hI.2.2.1.1.2
        refine w_kB e102_264 rfl ?_
        refine w_ldI e102_266 (fun _ => rfl) rfl ?_
        refine w_iadd e102_268 ?_
        refine w_cv e102_269 (by decide) rfl e180 rfl (Nat.le_of_ble_eq_true rfl) (Nat.le_of_ble_eq_true rfl) (Nat.le_of_ble_eq_true rfl) (by decide) (by decide) (r81 hM hK_ (by omega) (by omega) (V := V) (nv := nv) (l := (t.2.1 ((bsP fr nv t.2.1 t.2.2.1 8 []).reverse.getD (x4).toNat 0))) (by rw [hb9.1, show (16 + (((bsP fr nv t.2.1 t.2.2.1 8 []).reverse.getD (x4).toNat 0 : Nat) : Int)).toNat = 16 + (bsP fr nv t.2.1 t.2.2.1 8 []).reverse.getD (x4).toNat 0 by omega]; exact (hI.2.2.1.1.1 _ hb9.2).1) (by omega)) (fun o184 v185 hq186 => ?_)
        obtain ⟨⟨al187, ai188, hc189, hK190, hM191⟩, rfl⟩ := hq186
        have hcp : cpQ V nv ai_ ai188 al_ al187 (58 + (x4).toNat) (t.2.1 ((bsP fr nv t.2.1 t.2.2.1 8 []).reverse.getD (x4).toNat 0)) := by have h9 := hc189; rw [show (58 + x4).toNat = 58 + (x4).toNat by omega] at h9; exact h9
        refine w_iinc (A1 := [some (.ref 238), none, none, some (.int (vz x3)), some (.int (vz (x4 + 1)))]) e102_272 rfl (by decide) rfl ?_
        refine w_x e102_275 (fun _ => rfl) ?_
        exact w_sub (A1 := [some (.ref 238), none, none, some (.int (vz x3)), some (.int (vz (x4 + 1)))]) (And.intro rfl (And.intro rfl (And.intro rfl trivial))) ((ih.2.2.2) v185 sc_ ai188 al187 az_ x3 (x4 + 1) hM191 hK190 (by omega) (by omega) ⟨t, k, ⟨ht1, he⟩, d4_s hI hK_ (by omega) hcp⟩ hi1 hi2 (by omega))
set_option maxRecDepth 100000 in
set_option maxHeartbeats 4000000 in
theorem r102 {sc : Nat → Int} {ai : Nat → Nat → Int} {al : Nat → Nat → Int64} {az : Nat → Nat → Int32} {v0 vh : vm_H} (hM : tm sc ai al az v0 vh) (hK : tmok ai) {fr : Nat → Bool} {V : Nat → Nat} {nv : Nat} (hv : sc 1 = (nv : Int)) (hvr : vR ai = V) (hfr : frR az ai = fr) (hV : pmV V nv) {n : Nat} {U : Nat → Po} (hU : usQ V nv n U ai al) (hn16 : n ≤ 16) (h4 : sc 4 = (n : Int)) (hG : tbG V nv sc ai al az []) : vm_Rp 7 181 102 [.ref 238] vh (fun r v1 => ∃ (sc1 : Nat → Int) (ai1 : Nat → Nat → Int) (al1 : Nat → Nat → Int64) (az1 : Nat → Nat → Int32), (((thP U (hyR az) n).2 = 0 ∧ sc1 = u1 sc 0 0 ∧ ai1 = ai ∧ al1 = al ∧ az1 = az ∧ r = some (.int (vz (-1)))) ∨ ((thP U (hyR az) n).2 ≠ 0 ∧ deR fr V nv (deP fr nv (thP U (hyR az) n).1 (thP U (hyR az) n).2) sc sc1 ai ai1 al al1 az az1 ∧ r = some (.int (vz (deP fr nv (thP U (hyR az) n).1 (thP U (hyR az) n).2).1.1)))) ∧ tmok ai1 ∧ tm sc1 ai1 al1 az1 v0 v1) := by
  refine w_in (m := 4) ?_
  show vm_Wp _ _ _ 0 [some (.ref 238), none, none, none, none] [] _ _
  refine w_ldA e102_0 (fun _ => rfl) rfl ?_
  refine w_kI e102_1 ?_
  have e1 := tm_o hM
  refine w_put e102_2 e1 (Nat.le_of_ble_eq_true rfl) rfl (fun v4 b2 h3 => ?_)
  obtain ⟨sc5, hd7, hM6⟩ : ∃ z, z = u1 sc 0 (0) ∧ tm z ai al az v0 v4 := ⟨_, rfl, tm_ps 0 hM (by omega) b2 h3⟩
  refine w_kI e102_5 ?_
  refine w_stI (j := 1) (A1 := [some (.ref 238), some (.int (vz 0)), none, none, none]) e102_6 (fun _ => rfl) (by decide) rfl ?_
  refine w_kI e102_7 ?_
  refine w_stI (j := 2) (A1 := [some (.ref 238), some (.int (vz 0)), some (.int (vz 0)), none, none]) e102_8 (fun _ => rfl) (by decide) rfl ?_
  exact w_sub (A1 := [some (.ref 238), some (.int (vz 0)), some (.int (vz 0)), none, none]) (And.intro rfl (And.intro rfl (And.intro rfl trivial))) (((r102_L (sc := sc) (ai := ai) (al := al) (az := az) (v0 := v0) (fr := fr) (V := V) (nv := nv) (n := n) (U := U) hK hv hvr hfr hV hU hn16 h4 hG _).1) v4 sc5 0 0 hM6 (by omega) (by omega) hd7 rfl (Nat.lt_succ_self _))
