theorem perm_gl {K F K1 F1 : Nat → Int64} {n : Int} (h : (ls (fun t => (K1 t, F1 t)) n.toNat).Perm (ls (fun t => (K t, F t)) n.toNat)) (hg : ∀ t : Nat, (t : Int) < n → gl (F t)) : ∀ t : Nat, (t : Int) < n → gl (F1 t) := fun t ht => by
  have h1 : (K1 t, F1 t) ∈ ls (fun t => (K1 t, F1 t)) n.toNat := (ls_mem _).mpr ⟨t, by omega, rfl⟩
  obtain ⟨u, hu, e⟩ := (ls_mem _).mp (h.subset h1)
  have e2 : F u = F1 t := congrArg Prod.snd e
  rw [← e2]
  exact hg u (by omega)
theorem cP_o {vh v1 : vm_H} {i j : Nat} {n n1 : Int} {K F K1 F1 : Nat → Int64} (hp : pm (7 + 3 * i) n1 K1 F1 vh v1) (h : cP vh j n K F) (hj : j ≠ i) : cP v1 j n K F := ⟨h.1, (hp.2.1 _ (by omega) (by omega) (by omega)).trans h.2.1, (hp.2.1 _ (by omega) (by omega) (by omega)).trans h.2.2.1, (hp.2.1 _ (by omega) (by omega) (by omega)).trans h.2.2.2⟩
section MV
variable {θ : tc_S} {V V1 : Nat → Int} {Nf : Nat → Int} {Kf Ff Kg Fg : Nat → Nat → Int64}
/-- the words of the keys, up to the polynomial x -/
def mv1 (V : Nat → Int) (nv p : Int) (Nf : Nat → Int) (Kf Kg : Nat → Nat → Int64) (x : Int) : Prop := ∀ i : Nat, ((i : Int) < x → ∀ t : Nat, (t : Int) < Nf i → Kg i t = Int32.toInt64 (pof V (Kf i t) nv.toNat)) ∧ (x ≤ (i : Int) → Kg i = Kf i)
def mv2 (V V1 : Nat → Int) (nv p : Int) (Nf : Nat → Int) (Kf Ff Kg Fg : Nat → Nat → Int64) (x : Int) : Prop := ∀ i : Nat, ((i : Int) < x → (ls (fun t => (Kg i t, Fg i t)) (Nf i).toNat).Perm (ls (fun t => (kof V1 (pof V (Kf i t) nv.toNat) nv.toNat, Ff i t)) (Nf i).toNat) ∧ srt (Kg i) (Nf i)) ∧ (x ≤ (i : Int) → Fg i = Ff i ∧ ((i : Int) < p → ∀ t : Nat, (t : Int) < Nf i → Kg i t = Int32.toInt64 (pof V (Kf i t) nv.toNat)) ∧ (p ≤ (i : Int) → Kg i = Kf i))
abbrev mvP (vb : vm_H) (θ : tc_S) (V : Nat → Int) (Nf : Nat → Int) (Kf Ff : Nat → Nat → Int64) : Option Value → vm_H → Prop := fun r v1 => (∃ (V1 : Nat → Int) (Kg Fg : Nat → Nat → Int64), kp vb v1 ∧ tc θ ((false, false), v1) v1 ∧ vm_at v1 5 = some (.inl (0, 8, .inl (fun j => vz (V1 j)))) ∧ onto V1 θ.1 ∧ (∀ i, i < 16 → cP v1 i (Nf i) (Kg i) (Fg i)) ∧ mv2 V V1 θ.1 θ.2.1 Nf Kf Ff Kg Fg θ.2.1) ∧ r = none
set_option maxRecDepth 100000 in
set_option maxHeartbeats 4000000 in
theorem c64x_2 {vb : vm_H} {i1 i2 : Int} (hO : onto V1 θ.1) : ∀ (N : Nat) (vh : vm_H) (Kg Fg : Nat → Nat → Int64) (x3 : Int), kp vb vh → tc θ ((false, false), vh) vh → vm_at vh 5 = some (.inl (0, 8, .inl (fun j => vz (V1 j)))) → (∀ i, i < 16 → cP vh i (Nf i) (Kg i) (Fg i)) → mv2 V V1 θ.1 θ.2.1 Nf Kf Ff Kg Fg x3 → (0 ≤ x3 ∧ x3 ≤ θ.2.1) → (16 - x3).toNat < N → vm_Wp 3 68 64 51 [some (.ref 1), some (.int (vz i1)), some (.int (vz i2)), some (.int (vz x3))] [] vh (vq_P 64 (mvP vb θ V Nf Kf Ff)) := by
  intro N
  induction N with
  | zero => intros; omega
  | succ N ih =>
    intro vh Kg Fg x3 hkb hT hV hC hm hx hN
    have hok := hT.1
    have hp16 := hT.1.2.1
    refine w_ldI e64_51 (fun _ => rfl) rfl ?_
    refine w_ldA e64_52 (fun _ => rfl) rfl ?_
    obtain ⟨m2, m3, m4, m5, hm6, hm7, hm8, hm9, hm10, hm11, e1⟩ := tc_main hT
    refine w_get e64_53 e1 rfl ?_
    refine w_ic e64_56 (by omega) (by omega) (fun (h : θ.2.1 ≤ x3) => ?_) (fun (h : x3 < θ.2.1) => ?_)
    · refine w_ldA e64_78 (fun _ => rfl) rfl ?_
      refine w_get e64_79 e1 rfl ?_
      refine w_ldA e64_82 (fun _ => rfl) rfl ?_
      refine w_get e64_83 e1 rfl ?_
      refine w_cv e64_86 (by decide) rfl (tc_places hT).2 rfl (Nat.le_of_ble_eq_true rfl) (Nat.le_of_ble_eq_true rfl) (Nat.le_of_ble_eq_true rfl) (by decide) (by decide) (c11 (tc_fu hT) (a1 := 224) rfl (Or.inr (by decide))) (fun o v hq => ?_)
      obtain ⟨hT3, rfl⟩ := hq
      have hkp := tc_keep hT3
      refine w_rv e64_89 rfl ⟨⟨V1, Kg, Fg, kp_t hkb (kp_c hT3), tc_rf5 hT3, (hkp 5 (by decide)).trans hV, hO, fun i hi => cP_keep (hC i hi) hi (hk7 hkp), ?_⟩, rfl⟩
      rw [show θ.2.1 = x3 by omega]
      rw [show x3 = θ.2.1 by omega] at hm ⊢
      exact hm
    · refine w_ldA e64_59 (fun _ => rfl) rfl ?_
      refine w_get e64_60 e1 rfl ?_
      refine w_ldA e64_63 (fun _ => rfl) rfl ?_
      refine w_get e64_64 e1 rfl ?_
      refine w_ldI e64_67 (fun _ => rfl) rfl ?_
      obtain ⟨f, hf, e2⟩ := tc_polys hT
      refine w_qld e64_68 e2 (by decide) (by omega) (by omega) (by decide) (hf (x3).toNat (by omega)) ?_
      have hc := hC (x3).toNat (by omega)
      refine w_cv e64_69 (by decide) rfl (tc_places hT).2 rfl (Nat.le_of_ble_eq_true rfl) (Nat.le_of_ble_eq_true rfl) (Nat.le_of_ble_eq_true rfl) (by decide) (by decide) (c11x (cP_pm hc) hc.1.1 (tc_places hT).2 hV hok.1 hO.1 (by omega)) (fun o v hq => ?_)
      obtain ⟨⟨K1, F1, hpm, hperm, hsrt⟩, rfl⟩ := hq
      have hms := (hm (x3).toNat).2 (by omega)
      have hkx := hms.2.1 (by omega)
      have e3 : ls (fun t => (kof V1 (Kg (x3).toNat t).toInt32 (θ.1).toNat, Fg (x3).toNat t)) (Nf (x3).toNat).toNat = ls (fun t => (kof V1 (pof V (Kf (x3).toNat t) (θ.1).toNat) (θ.1).toNat, Ff (x3).toNat t)) (Nf (x3).toNat).toNat := ls_cg _ fun t ht => by
        rw [hkx t (by omega), Int32.toInt32_toInt64, hms.1]
      have hg1 : ∀ t : Nat, (t : Int) < Nf (x3).toNat → gl (F1 t) := perm_gl hperm hc.1.2
      rw [e3] at hperm
      have hT2 := tc_pm hT (by omega) hpm hc.1.1
      refine w_iinc (A1 := [some (.ref 1), some (.int (vz i1)), some (.int (vz i2)), some (.int (vz (x3 + 1)))]) e64_72 rfl (by decide) rfl ?_
      refine w_x e64_75 (fun _ => rfl) ?_
      obtain ⟨Kn, hk1, hk2⟩ : ∃ Kn : Nat → Nat → Int64, Kn (x3).toNat = K1 ∧ ∀ j, j ≠ (x3).toNat → Kn j = Kg j := ⟨fun j => if j = (x3).toNat then K1 else Kg j, if_pos rfl, fun j hj => if_neg hj⟩
      obtain ⟨Fn, hf1, hf2⟩ : ∃ Fn : Nat → Nat → Int64, Fn (x3).toNat = F1 ∧ ∀ j, j ≠ (x3).toNat → Fn j = Fg j := ⟨fun j => if j = (x3).toNat then F1 else Fg j, if_pos rfl, fun j hj => if_neg hj⟩
      refine ih v Kn Fn (x3 + 1) (kp_t hkb (kp_pm (by omega) hpm)) hT2 ((hpm.2.1 5 (by omega) (by omega) (by omega)).trans hV) (fun i hi => ?_) (fun i => ?_) (by omega) (by omega)
      · by_cases q : i = (x3).toNat
        · rw [q, hk1, hf1]
          exact ⟨⟨hc.1.1, hg1⟩, hpm.2.2.1, hpm.2.2.2.1, hpm.2.2.2.2⟩
        · rw [hk2 i q, hf2 i q]
          exact cP_o hpm (hC i hi) q
      · by_cases q : i = (x3).toNat
        · rw [q, hk1, hf1]
          exact ⟨fun _ => ⟨hperm, hsrt⟩, fun z => by omega⟩
        · rw [hk2 i q, hf2 i q]
          exact ⟨fun z => (hm i).1 (by omega), fun z => (hm i).2 (by omega)⟩
set_option maxRecDepth 100000 in
set_option maxHeartbeats 4000000 in
theorem c64x_1 {vb : vm_H} {i1 i2 : Int} (hi_1 : 0 ≤ i1 ∧ i1 < θ.1) (hi_2 : 0 ≤ i2 ∧ i2 < θ.1) (hO : onto V θ.1) : ∀ (N : Nat) (vh : vm_H) (Kg : Nat → Nat → Int64) (x3 : Int), kp vb vh → tc θ ((false, false), vh) vh → vm_at vh 5 = some (.inl (0, 8, .inl (fun j => vz (V j)))) → (∀ i, i < 16 → cP vh i (Nf i) (Kg i) (Ff i)) → mv1 V θ.1 θ.2.1 Nf Kf Kg x3 → (0 ≤ x3 ∧ x3 ≤ θ.2.1) → (16 - x3).toNat < N → vm_Wp 3 68 64 2 [some (.ref 1), some (.int (vz i1)), some (.int (vz i2)), some (.int (vz x3))] [] vh (vq_P 64 (mvP vb θ V Nf Kf Ff)) := by
  intro N
  induction N with
  | zero => intros; omega
  | succ N ih =>
    intro vh Kg x3 hkb hT hV hC hm hx hN
    have hok := hT.1
    have hp16 := hT.1.2.1
    refine w_ldI e64_2 (fun _ => rfl) rfl ?_
    refine w_ldA e64_3 (fun _ => rfl) rfl ?_
    obtain ⟨m2, m3, m4, m5, hm6, hm7, hm8, hm9, hm10, hm11, e1⟩ := tc_main hT
    refine w_get e64_4 e1 rfl ?_
    refine w_ic e64_7 (by omega) (by omega) (fun (h : θ.2.1 ≤ x3) => ?_) (fun (h : x3 < θ.2.1) => ?_)
    · refine w_ldA e64_29 (fun _ => rfl) rfl ?_
      refine w_get e64_30 e1 rfl ?_
      refine w_ldA e64_33 (fun _ => rfl) rfl ?_
      refine w_get e64_34 e1 rfl ?_
      refine w_cv e64_37 (by decide) rfl (tc_places hT).2 rfl (Nat.le_of_ble_eq_true rfl) (Nat.le_of_ble_eq_true rfl) (Nat.le_of_ble_eq_true rfl) (by decide) (by decide) (c10 (tc_fu hT) (a1 := 224) rfl (Or.inr (by decide))) (fun o v hq => ?_)
      obtain ⟨hT3, rfl⟩ := hq
      have hkp := tc_keep hT3
      have hT4 := tc_rf5 hT3
      have hV4 := (hkp 5 (by decide)).trans hV
      refine w_ldA e64_40 (fun _ => rfl) rfl ?_
      obtain ⟨r2, r3, r4, r5, g6, g7, g8, g9, g10, g11, e4⟩ := tc_main hT4
      refine w_get e64_41 e4 rfl ?_
      refine w_ldI e64_44 (fun _ => rfl) rfl ?_
      refine w_ldI e64_45 (fun _ => rfl) rfl ?_
      refine w_cv e64_46 (by decide) rfl (tc_places hT4).2 rfl (Nat.le_of_ble_eq_true rfl) (Nat.le_of_ble_eq_true rfl) (Nat.le_of_ble_eq_true rfl) (by decide) (by decide) (c6x (vd_in hT4 hV4) hok.1 hO hi_1 hi_2) (fun o w hq => ?_)
      obtain ⟨⟨V1, hv, ho⟩, rfl⟩ := hq
      have hT5 := tc_vd hT4 hv hok.1 ho.1
      have hT6 : tc θ ((false, false), w) w := hT5
      refine w_kI e64_49 ?_
      refine w_stI (j := 3) (A1 := [some (.ref 1), some (.int (vz i1)), some (.int (vz i2)), some (.int (vz 0))]) e64_50 (fun _ => rfl) (by decide) rfl ?_
      refine c64x_2 (V1 := V1) (Kf := Kf) (i1 := i1) (i2 := i2) ho _ w Kg Ff 0 (kp_t (kp_t hkb (kp_c hT3)) (kp_vd hv)) hT6 hv.2.2.2.2 (fun i hi => cP_keep (cP_keep (hC i hi) hi (hk7 hkp)) hi (fun b hb => hv.2.1 b (by omega) (by omega) (by omega))) (fun i => ⟨fun z => by omega, fun _ => ⟨rfl, fun z => (hm i).1 (by omega), fun z => (hm i).2 (by omega)⟩⟩) (by omega) (Nat.lt_succ_self _)
    · refine w_ldA e64_10 (fun _ => rfl) rfl ?_
      refine w_get e64_11 e1 rfl ?_
      refine w_ldA e64_14 (fun _ => rfl) rfl ?_
      refine w_get e64_15 e1 rfl ?_
      refine w_ldI e64_18 (fun _ => rfl) rfl ?_
      obtain ⟨f, hf, e2⟩ := tc_polys hT
      refine w_qld e64_19 e2 (by decide) (by omega) (by omega) (by decide) (hf (x3).toNat (by omega)) ?_
      have hc := hC (x3).toNat (by omega)
      refine w_cv e64_20 (by decide) rfl (tc_places hT).2 rfl (Nat.le_of_ble_eq_true rfl) (Nat.le_of_ble_eq_true rfl) (Nat.le_of_ble_eq_true rfl) (by decide) (by decide) (c10x (cP_pm hc) hc.1.1 (tc_places hT).2 hV hok.1 hO.1 (by omega)) (fun o v hq => ?_)
      obtain ⟨⟨K1, hpm, hkk⟩, rfl⟩ := hq
      have hms := (hm (x3).toNat).2 (by omega)
      have hT2 := tc_pm hT (by omega) hpm hc.1.1
      refine w_iinc (A1 := [some (.ref 1), some (.int (vz i1)), some (.int (vz i2)), some (.int (vz (x3 + 1)))]) e64_23 rfl (by decide) rfl ?_
      refine w_x e64_26 (fun _ => rfl) ?_
      obtain ⟨Kn, hk1, hk2⟩ : ∃ Kn : Nat → Nat → Int64, Kn (x3).toNat = K1 ∧ ∀ j, j ≠ (x3).toNat → Kn j = Kg j := ⟨fun j => if j = (x3).toNat then K1 else Kg j, if_pos rfl, fun j hj => if_neg hj⟩
      refine ih v Kn (x3 + 1) (kp_t hkb (kp_pm (by omega) hpm)) hT2 ((hpm.2.1 5 (by omega) (by omega) (by omega)).trans hV) (fun i hi => ?_) (fun i => ?_) (by omega) (by omega)
      · by_cases q : i = (x3).toNat
        · rw [q, hk1]
          exact ⟨hc.1, hpm.2.2.1, hpm.2.2.2.1, hpm.2.2.2.2⟩
        · rw [hk2 i q]
          exact cP_o hpm (hC i hi) q
      · by_cases q : i = (x3).toNat
        · rw [q, hk1]
          exact ⟨fun _ t ht => by rw [hkk t ht, hms], fun z => by omega⟩
        · rw [hk2 i q]
          exact ⟨fun z => (hm i).1 (by omega), fun z => (hm i).2 (by omega)⟩
set_option maxRecDepth 100000 in
set_option maxHeartbeats 4000000 in
theorem c64x {vh : vm_H} (hT : tc θ ((false, false), vh) vh) (hV : vm_at vh 5 = some (.inl (0, 8, .inl (fun j => vz (V j))))) (hO : onto V θ.1) (hC : ∀ i, i < 16 → cP vh i (Nf i) (Kf i) (Ff i)) {i1 i2 : Int} (hi_1 : 0 ≤ i1 ∧ i1 < θ.1) (hi_2 : 0 ≤ i2 ∧ i2 < θ.1) : vm_Rp 3 68 64 [.ref 1, .int (vz i1), .int (vz i2)] vh (mvP vh θ V Nf Kf Ff) := by
  have hp16 := hT.1.2.1
  refine w_in (m := 1) ?_
  show vm_Wp _ _ _ 0 [some (.ref 1), some (.int (vz i1)), some (.int (vz i2)), none] [] _ _
  refine w_kI e64_0 ?_
  refine w_stI (j := 3) (A1 := [some (.ref 1), some (.int (vz i1)), some (.int (vz i2)), some (.int (vz 0))]) e64_1 (fun _ => rfl) (by decide) rfl ?_
  exact c64x_1 (vb := vh) hi_1 hi_2 hO _ vh Kf 0 (fun _ _ => rfl) hT hV hC (fun i => ⟨fun z => by omega, fun _ => rfl⟩) (by omega) (Nat.lt_succ_self _)
end MV
