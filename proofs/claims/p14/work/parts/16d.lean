set_option maxRecDepth 100000 in
set_option maxHeartbeats 4000000 in
theorem c27x_L {a0 : Nat} {n : Int} {K F : Nat → Int64} {v0 : vm_H} (hn : 0 ≤ n ∧ n ≤ 60) : ∀ N : Nat, (∀ (vh : vm_H) (K_ : Nat → Int64) (F_ : Nat → Int64) (x1 : Int), (pm a0 n K_ F_ v0 vh) → (1 ≤ x1 ∧ x1 ≤ 60 ∧ (x1 ≤ n ∨ x1 = 1)) → ((ls (fun t => (K_ t, F_ t)) (n).toNat).Perm (ls (fun t => (K t, F t)) (n).toNat)) → (srt K_ x1) → (((60 - x1) * 100 + 99 : Int).toNat < N) → vm_Wp 0 0 27 2 [some (.ref a0), some (.int (vz x1)), none, none, none, none, none] [] vh (vq_P 27 (fun r v1 => (∃ K1 F1 : Nat → Int64, pm a0 n K1 F1 v0 v1 ∧ (ls (fun t => (K1 t, F1 t)) (n).toNat).Perm (ls (fun t => (K t, F t)) (n).toNat) ∧ srt K1 n) ∧ r = none))) ∧ (∀ (vh : vm_H) (K_ : Nat → Int64) (F_ : Nat → Int64) (x1 : Int) (y2 : Int64) (y4 : Int64) (x6 : Int), (pm a0 n K_ F_ v0 vh) → (1 ≤ x1 ∧ x1 < n) → (0 ≤ x6 ∧ x6 ≤ x1) → ((ls (hl K_ F_ y2 y4 (x6).toNat) (n).toNat).Perm (ls (fun t => (K t, F t)) (n).toNat)) → (shl K_ y2 x6 x1) → (((60 - x1) * 100 + x6 : Int).toNat < N) → vm_Wp 0 0 27 28 [some (.ref a0), some (.int (vz x1)), some (.long y2), none, some (.long y4), none, some (.int (vz x6))] [] vh (vq_P 27 (fun r v1 => (∃ K1 F1 : Nat → Int64, pm a0 n K1 F1 v0 v1 ∧ (ls (fun t => (K1 t, F1 t)) (n).toNat).Perm (ls (fun t => (K t, F t)) (n).toNat) ∧ srt K1 n) ∧ r = none))) := by
  intro N
  induction N with
  | zero => exact ⟨by intros; omega, by intros; omega⟩
  | succ N ih =>
    refine ⟨?_, ?_⟩
    ·
      intro vh K_ F_ x1 hM hx1 hi0 hi1 hN
      refine w_ldI e27_2 (fun _ => rfl) rfl ?_
      refine w_ldA e27_3 (fun _ => rfl) rfl ?_
      refine w_get e27_4 hM.2.2.1 rfl ?_
      refine w_ic e27_7 (by omega) (by omega) (fun (h1 : n ≤ x1) => ?_) (fun (h1 : x1 < n) => ?_)
      ·
        exact w_rv e27_108 rfl ⟨⟨K_, F_, hM, hi0, fun i hi => hi1 i (by omega)⟩, rfl⟩
      ·
        refine w_ldA e27_10 (fun _ => rfl) rfl ?_
        refine w_get e27_11 hM.2.2.1 rfl ?_
        refine w_ldI e27_14 (fun _ => rfl) rfl ?_
        refine w_lld e27_15 (hM.2.2.2.1) (by omega) (by omega) (by decide) ?_
        refine w_stL (j := 2) (A1 := [some (.ref a0), some (.int (vz x1)), some (.long ((K_ (x1).toNat))), none, none, none, none]) e27_16 (fun _ => rfl) (by decide) rfl ?_
        refine w_ldA e27_17 (fun _ => rfl) rfl ?_
        refine w_get e27_18 hM.2.2.1 rfl ?_
        refine w_ldI e27_21 (fun _ => rfl) rfl ?_
        refine w_lld e27_22 (hM.2.2.2.2) (by omega) (by omega) (by decide) ?_
        refine w_stL (j := 4) (A1 := [some (.ref a0), some (.int (vz x1)), some (.long ((K_ (x1).toNat))), none, some (.long ((F_ (x1).toNat))), none, none]) e27_23 (fun _ => rfl) (by decide) rfl ?_
        refine w_ldI e27_25 (fun _ => rfl) rfl ?_
        refine w_stI (j := 6) (A1 := [some (.ref a0), some (.int (vz x1)), some (.long ((K_ (x1).toNat))), none, some (.long ((F_ (x1).toNat))), none, some (.int (vz x1))]) e27_26 (fun _ => rfl) (by decide) rfl ?_
        exact w_sub (A1 := [some (.ref a0), some (.int (vz x1)), some (.long ((K_ (x1).toNat))), none, some (.long ((F_ (x1).toNat))), none, some (.int (vz x1))]) (And.intro rfl (And.intro rfl (And.intro rfl (And.intro rfl (And.intro rfl trivial))))) ((ih.2) vh K_ F_ x1 ((K_ (x1).toNat)) ((F_ (x1).toNat)) x1 hM (by omega) (by omega) (by rw [hl_0 rfl rfl]; exact hi0) (shl_0 hi1) (by omega))
    ·
      intro vh K_ F_ x1 y2 y4 x6 hM hx1 hx6 hi0 hi1 hN
      refine w_ldI e27_28 (fun _ => rfl) rfl ?_
      refine w_if e27_30 (by omega) (fun (h2 : x6 ≤ 0) => ?_) (fun (h2 : 0 < x6) => ?_)
      ·
        refine w_ldA e27_85 (fun _ => rfl) rfl ?_
        refine w_get e27_86 hM.2.2.1 rfl ?_
        refine w_ldI e27_89 (fun _ => rfl) rfl ?_
        refine w_ldL e27_91 (fun _ => rfl) rfl ?_
        refine w_lst e27_92 (hM.2.2.2.1) (by omega) (by omega) (by decide) (fun v5 b3 h4 => ?_)
        obtain ⟨K6, hd7, hM8⟩ : ∃ z, z = vp_updL K_ (x6).toNat y2 ∧ pm a0 n z F_ v0 v5 := ⟨_, rfl, pm_K hM b3 h4⟩
        refine w_ldA e27_93 (fun _ => rfl) rfl ?_
        refine w_get e27_94 hM8.2.2.1 rfl ?_
        refine w_ldI e27_97 (fun _ => rfl) rfl ?_
        refine w_ldL e27_99 (fun _ => rfl) rfl ?_
        refine w_lst e27_101 (hM8.2.2.2.2) (by omega) (by omega) (by decide) (fun v11 b9 h10 => ?_)
        obtain ⟨F12, hd13, hM14⟩ : ∃ z, z = vp_updL F_ (x6).toNat y4 ∧ pm a0 n K6 z v0 v11 := ⟨_, rfl, pm_F hM8 b9 h10⟩
        refine w_iinc (A1 := [some (.ref a0), some (.int (vz (x1 + 1))), some (.long y2), none, some (.long y4), none, some (.int (vz x6))]) e27_102 rfl (by decide) rfl ?_
        refine w_x e27_105 (fun _ => rfl) ?_
        exact w_sub (A1 := [some (.ref a0), some (.int (vz (x1 + 1))), none, none, none, none, none]) (And.intro rfl (And.intro rfl trivial)) ((ih.1) v11 K6 F12 (x1 + 1) hM14 (by omega) (by rw [hl_end hd7 hd13]; exact hi0) (shl_end hi1 (by omega) (by omega) hd7) (by omega))
      ·
        refine w_ldA e27_33 (fun _ => rfl) rfl ?_
        refine w_get e27_34 hM.2.2.1 rfl ?_
        refine w_ldI e27_37 (fun _ => rfl) rfl ?_
        refine w_kI e27_39 ?_
        refine w_isub e27_40 ?_
        refine w_lld e27_41 (hM.2.2.2.1) (by omega) (by omega) (by decide) ?_
        refine w_ldL e27_42 (fun _ => rfl) rfl ?_
        refine w_lcmp e27_43 (fun q15 (h16 : -1 ≤ q15 ∧ q15 ≤ 1) h17 h18 => ?_)
        have hc19 : (q15 = 0 ↔ ((K_ (x6 - 1).toNat)).toInt = y2.toInt) ∧ (q15 < 0 ↔ ((K_ (x6 - 1).toNat)).toInt < y2.toInt) := lc_i h17 h18
        refine w_if e27_44 (by omega) (fun (h20 : 0 ≤ q15) => ?_) (fun (h20 : q15 < 0) => ?_)
        ·
          refine w_ldA e27_85 (fun _ => rfl) rfl ?_
          refine w_get e27_86 hM.2.2.1 rfl ?_
          refine w_ldI e27_89 (fun _ => rfl) rfl ?_
          refine w_ldL e27_91 (fun _ => rfl) rfl ?_
          refine w_lst e27_92 (hM.2.2.2.1) (by omega) (by omega) (by decide) (fun v23 b21 h22 => ?_)
          obtain ⟨K24, hd25, hM26⟩ : ∃ z, z = vp_updL K_ (x6).toNat y2 ∧ pm a0 n z F_ v0 v23 := ⟨_, rfl, pm_K hM b21 h22⟩
          refine w_ldA e27_93 (fun _ => rfl) rfl ?_
          refine w_get e27_94 hM26.2.2.1 rfl ?_
          refine w_ldI e27_97 (fun _ => rfl) rfl ?_
          refine w_ldL e27_99 (fun _ => rfl) rfl ?_
          refine w_lst e27_101 (hM26.2.2.2.2) (by omega) (by omega) (by decide) (fun v29 b27 h28 => ?_)
          obtain ⟨F30, hd31, hM32⟩ : ∃ z, z = vp_updL F_ (x6).toNat y4 ∧ pm a0 n K24 z v0 v29 := ⟨_, rfl, pm_F hM26 b27 h28⟩
          refine w_iinc (A1 := [some (.ref a0), some (.int (vz (x1 + 1))), some (.long y2), none, some (.long y4), none, some (.int (vz x6))]) e27_102 rfl (by decide) rfl ?_
          refine w_x e27_105 (fun _ => rfl) ?_
          exact w_sub (A1 := [some (.ref a0), some (.int (vz (x1 + 1))), none, none, none, none, none]) (And.intro rfl (And.intro rfl trivial)) ((ih.1) v29 K24 F30 (x1 + 1) hM32 (by omega) (by rw [hl_end hd25 hd31]; exact hi0) (shl_end hi1 (by omega) (by omega) hd25) (by omega))
        ·
          refine w_ldA e27_47 (fun _ => rfl) rfl ?_
          refine w_get e27_48 hM.2.2.1 rfl ?_
          refine w_ldI e27_51 (fun _ => rfl) rfl ?_
          refine w_ldA e27_53 (fun _ => rfl) rfl ?_
          refine w_get e27_54 hM.2.2.1 rfl ?_
          refine w_ldI e27_57 (fun _ => rfl) rfl ?_
          refine w_kI e27_59 ?_
          refine w_isub e27_60 ?_
          refine w_lld e27_61 (hM.2.2.2.1) (by omega) (by omega) (by decide) ?_
          refine w_lst e27_62 (hM.2.2.2.1) (by omega) (by omega) (by decide) (fun v35 b33 h34 => ?_)
          obtain ⟨K36, hd37, hM38⟩ : ∃ z, z = vp_updL K_ (x6).toNat ((K_ (x6 - 1).toNat)) ∧ pm a0 n z F_ v0 v35 := ⟨_, rfl, pm_K hM b33 h34⟩
          refine w_ldA e27_63 (fun _ => rfl) rfl ?_
          refine w_get e27_64 hM38.2.2.1 rfl ?_
          refine w_ldI e27_67 (fun _ => rfl) rfl ?_
          refine w_ldA e27_69 (fun _ => rfl) rfl ?_
          refine w_get e27_70 hM38.2.2.1 rfl ?_
          refine w_ldI e27_73 (fun _ => rfl) rfl ?_
          refine w_kI e27_75 ?_
          refine w_isub e27_76 ?_
          refine w_lld e27_77 (hM38.2.2.2.2) (by omega) (by omega) (by decide) ?_
          refine w_lst e27_78 (hM38.2.2.2.2) (by omega) (by omega) (by decide) (fun v41 b39 h40 => ?_)
          obtain ⟨F42, hd43, hM44⟩ : ∃ z, z = vp_updL F_ (x6).toNat ((F_ (x6 - 1).toNat)) ∧ pm a0 n K36 z v0 v41 := ⟨_, rfl, pm_F hM38 b39 h40⟩
          refine w_iinc (A1 := [some (.ref a0), some (.int (vz x1)), some (.long y2), none, some (.long y4), none, some (.int (vz (x6 + (-1))))]) e27_79 rfl (by decide) rfl ?_
          refine w_x e27_82 (fun _ => rfl) ?_
          exact w_sub (A1 := [some (.ref a0), some (.int (vz x1)), some (.long y2), none, some (.long y4), none, some (.int (vz (x6 + (-1))))]) (And.intro rfl (And.intro rfl (And.intro rfl (And.intro rfl (And.intro rfl trivial))))) ((ih.2) v41 K36 F42 x1 y2 y4 (x6 + (-1)) hM44 (by omega) (by omega) ((hl_step (by omega) hd37 hd43).trans hi0) (shl_step hi1 (by omega) (by omega) hd37) (by omega))
set_option maxRecDepth 100000 in
set_option maxHeartbeats 4000000 in
theorem c27x {a0 : Nat} {n : Int} {K F : Nat → Int64} {v0 vh : vm_H} (hM : pm a0 n K F v0 vh) (hn : 0 ≤ n ∧ n ≤ 60) : vm_Rp 0 0 27 [.ref a0] vh (fun r v1 => (∃ K1 F1 : Nat → Int64, pm a0 n K1 F1 v0 v1 ∧ (ls (fun t => (K1 t, F1 t)) (n).toNat).Perm (ls (fun t => (K t, F t)) (n).toNat) ∧ srt K1 n) ∧ r = none) := by
  refine w_in (m := 6) ?_
  show vm_Wp _ _ _ 0 [some (.ref a0), none, none, none, none, none, none] [] _ _
  refine w_kI e27_0 ?_
  refine w_stI (j := 1) (A1 := [some (.ref a0), some (.int (vz 1)), none, none, none, none, none]) e27_1 (fun _ => rfl) (by decide) rfl ?_
  exact w_sub (A1 := [some (.ref a0), some (.int (vz 1)), none, none, none, none, none]) (And.intro rfl (And.intro rfl trivial)) (((c27x_L (a0 := a0) (n := n) (K := K) (F := F) (v0 := v0) hn _).1) vh K F 1 hM (by omega) (List.Perm.refl _) (fun i hi => by omega) (Nat.lt_succ_self _))
