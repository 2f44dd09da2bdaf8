set_option maxRecDepth 100000 in
set_option maxHeartbeats 4000000 in
theorem c10x_L {a0 : Nat} {n : Int} {K F : Nat → Int64} {v0 : vm_H} (hn : 0 ≤ n ∧ n ≤ 60) {nv : Int} {V : Nat → Int} (hP : vm_at v0 2 = some (.inr (0, [.int (vz nv), .ref 3, .ref 4, .ref 5]))) (hV : vm_at v0 5 = some (.inl (0, 8, .inl (fun j => vz (V j))))) (hnv : 0 ≤ nv ∧ nv ≤ 8) (hVr : ∀ j, 0 ≤ V j ∧ V j < 8) (ha : 7 ≤ a0) : ∀ N : Nat, (∀ (vh : vm_H) (K_ : Nat → Int64) (x2 : Int), (pm a0 n K_ F v0 vh) → (0 ≤ x2 ∧ x2 ≤ n) → (cvd K K_ (fun κ => Int32.toInt64 (pof V κ (nv).toNat)) x2) → ((60 - x2 : Int).toNat < N) → vm_Wp 2 46 10 2 [some (.ref 2), some (.ref a0), some (.int (vz x2))] [] vh (vq_P 10 (fun r v1 => (∃ K1 : Nat → Int64, pm a0 n K1 F v0 v1 ∧ ∀ j : Nat, (j : Int) < n → K1 j = Int32.toInt64 (pof V (K j) (nv).toNat)) ∧ r = none))) := by
  intro N
  induction N with
  | zero => exact (by intros; omega)
  | succ N ih =>
    ·
      intro vh K_ x2 hM hx2 hi0 hN
      refine w_ldI e10_2 (fun _ => rfl) rfl ?_
      refine w_ldA e10_3 (fun _ => rfl) rfl ?_
      refine w_get e10_4 hM.2.2.1 rfl ?_
      refine w_ic e10_7 (by omega) (by omega) (fun (h1 : n ≤ x2) => ?_) (fun (h1 : x2 < n) => ?_)
      ·
        exact w_rv e10_33 rfl ⟨⟨K_, hM, fun j hj => hi0.1 j (by omega)⟩, rfl⟩
      ·
        refine w_ldA e10_10 (fun _ => rfl) rfl ?_
        refine w_get e10_11 hM.2.2.1 rfl ?_
        refine w_ldI e10_14 (fun _ => rfl) rfl ?_
        refine w_ldA e10_15 (fun _ => rfl) rfl ?_
        refine w_ldA e10_16 (fun _ => rfl) rfl ?_
        refine w_get e10_17 hM.2.2.1 rfl ?_
        refine w_ldI e10_20 (fun _ => rfl) rfl ?_
        refine w_lld e10_21 (hM.2.2.2.1) (by omega) (by omega) (by decide) ?_
        refine w_cv e10_22 (by decide) rfl ((hM.2.1 2 (by omega) (by omega) (by omega)).trans hP) rfl (Nat.le_of_ble_eq_true rfl) (Nat.le_of_ble_eq_true rfl) (Nat.le_of_ble_eq_true rfl) (by decide) (by decide) (c9x ((hM.2.1 2 (by omega) (by omega) (by omega)).trans hP) ((hM.2.1 5 (by omega) (by omega) (by omega)).trans hV) hnv hVr (l_1 := (K_ (x2).toNat))) (fun o2 v3 hq4 => ?_)
        obtain ⟨rfl, rfl⟩ := hq4
        obtain ⟨q5, h6, h7⟩ := vz_ex (pof V ((K_ (x2).toNat)) (nv).toNat)
        show vm_Wp _ _ _ 25 _ (.int (pof V ((K_ (x2).toNat)) (nv).toNat) :: _) _ _
        rw [h6]
        refine w_x e10_25 (fun _ => rfl) ?_
        refine w_lst e10_26 (hM.2.2.2.1) (by omega) (by omega) (by decide) (fun v10 b8 h9 => ?_)
        obtain ⟨K11, hd12, hM13⟩ : ∃ z, z = vp_updL K_ (x2).toNat ((Int32.toInt64 (vz q5))) ∧ pm a0 n z F v0 v10 := ⟨_, rfl, pm_K hM b8 h9⟩
        refine w_iinc (A1 := [some (.ref 2), some (.ref a0), some (.int (vz (x2 + 1)))]) e10_27 rfl (by decide) rfl ?_
        refine w_x e10_30 (fun _ => rfl) ?_
        exact w_sub (A1 := [some (.ref 2), some (.ref a0), some (.int (vz (x2 + 1)))]) (And.intro rfl (And.intro rfl (And.intro rfl trivial))) ((ih) v10 K11 (x2 + 1) hM13 (by omega) (cvd_s hi0 (by omega) (by rw [h6]) hd12) (by omega))
set_option maxRecDepth 100000 in
set_option maxHeartbeats 4000000 in
theorem c10x {a0 : Nat} {n : Int} {K F : Nat → Int64} {v0 vh : vm_H} (hM : pm a0 n K F v0 vh) (hn : 0 ≤ n ∧ n ≤ 60) {nv : Int} {V : Nat → Int} (hP : vm_at v0 2 = some (.inr (0, [.int (vz nv), .ref 3, .ref 4, .ref 5]))) (hV : vm_at v0 5 = some (.inl (0, 8, .inl (fun j => vz (V j))))) (hnv : 0 ≤ nv ∧ nv ≤ 8) (hVr : ∀ j, 0 ≤ V j ∧ V j < 8) (ha : 7 ≤ a0) : vm_Rp 2 46 10 [.ref 2, .ref a0] vh (fun r v1 => (∃ K1 : Nat → Int64, pm a0 n K1 F v0 v1 ∧ ∀ j : Nat, (j : Int) < n → K1 j = Int32.toInt64 (pof V (K j) (nv).toNat)) ∧ r = none) := by
  refine w_in (m := 1) ?_
  show vm_Wp _ _ _ 0 [some (.ref 2), some (.ref a0), none] [] _ _
  refine w_kI e10_0 ?_
  refine w_stI (j := 2) (A1 := [some (.ref 2), some (.ref a0), some (.int (vz 0))]) e10_1 (fun _ => rfl) (by decide) rfl ?_
  exact w_sub (A1 := [some (.ref 2), some (.ref a0), some (.int (vz 0))]) (And.intro rfl (And.intro rfl (And.intro rfl trivial))) (((c10x_L (a0 := a0) (n := n) (K := K) (F := F) (v0 := v0) (nv := nv) (V := V) hn hP hV hnv hVr ha _)) vh K 0 hM (by omega) cvd_0 (Nat.lt_succ_self _))
set_option maxRecDepth 100000 in
set_option maxHeartbeats 4000000 in
theorem c11x_L {a0 : Nat} {n : Int} {K F : Nat → Int64} {v0 : vm_H} (hn : 0 ≤ n ∧ n ≤ 60) {nv : Int} {V : Nat → Int} (hP : vm_at v0 2 = some (.inr (0, [.int (vz nv), .ref 3, .ref 4, .ref 5]))) (hV : vm_at v0 5 = some (.inl (0, 8, .inl (fun j => vz (V j))))) (hnv : 0 ≤ nv ∧ nv ≤ 8) (hVr : ∀ j, 0 ≤ V j ∧ V j < 8) (ha : 7 ≤ a0) : ∀ N : Nat, (∀ (vh : vm_H) (K_ : Nat → Int64) (x2 : Int), (pm a0 n K_ F v0 vh) → (0 ≤ x2 ∧ x2 ≤ n) → (cvd K K_ (fun κ => kof V κ.toInt32 (nv).toNat) x2) → ((60 - x2 : Int).toNat < N) → vm_Wp 1 26 11 2 [some (.ref 2), some (.ref a0), some (.int (vz x2))] [] vh (vq_P 11 (fun r v1 => (∃ K1 F1 : Nat → Int64, pm a0 n K1 F1 v0 v1 ∧ (ls (fun t => (K1 t, F1 t)) (n).toNat).Perm (ls (fun t => (kof V (K t).toInt32 (nv).toNat, F t)) (n).toNat) ∧ srt K1 n) ∧ r = none))) := by
  intro N
  induction N with
  | zero => exact (by intros; omega)
  | succ N ih =>
    ·
      intro vh K_ x2 hM hx2 hi0 hN
      refine w_ldI e11_2 (fun _ => rfl) rfl ?_
      refine w_ldA e11_3 (fun _ => rfl) rfl ?_
      refine w_get e11_4 hM.2.2.1 rfl ?_
      refine w_ic e11_7 (by omega) (by omega) (fun (h1 : n ≤ x2) => ?_) (fun (h1 : x2 < n) => ?_)
      ·
        refine w_ldA e11_33 (fun _ => rfl) rfl ?_
        refine w_cv e11_34 (by decide) rfl (hM.2.2.1) rfl (Nat.le_of_ble_eq_true rfl) (Nat.le_of_ble_eq_true rfl) (Nat.le_of_ble_eq_true rfl) (by decide) (by decide) (c27x hM hn) (fun o2 v3 hq4 => ?_)
        obtain ⟨⟨K9, F9, hM9, hp9, hs9⟩, rfl⟩ := hq4
        exact w_rv e11_37 rfl ⟨⟨K9, F9, hM9, (by have e9 : ls (fun t => (K_ t, F t)) (n).toNat = ls (fun t => (kof V (K t).toInt32 (nv).toNat, F t)) (n).toNat := ls_cg _ (fun t ht => by rw [hi0.1 t (by omega)]); rw [← e9]; exact hp9), hs9⟩, rfl⟩
      ·
        refine w_ldA e11_10 (fun _ => rfl) rfl ?_
        refine w_get e11_11 hM.2.2.1 rfl ?_
        refine w_ldI e11_14 (fun _ => rfl) rfl ?_
        refine w_ldA e11_15 (fun _ => rfl) rfl ?_
        refine w_ldA e11_16 (fun _ => rfl) rfl ?_
        refine w_get e11_17 hM.2.2.1 rfl ?_
        refine w_ldI e11_20 (fun _ => rfl) rfl ?_
        refine w_lld e11_21 (hM.2.2.2.1) (by omega) (by omega) (by decide) ?_
        refine w_x e11_22 (fun _ => rfl) ?_
        obtain ⟨q5, h6, h7⟩ := vz_ex ((K_ (x2).toNat)).toInt32
        show vm_Wp _ _ _ 23 _ (.int ((K_ (x2).toNat)).toInt32 :: _) _ _
        rw [h6]
        refine w_cv e11_23 (by decide) rfl ((hM.2.1 2 (by omega) (by omega) (by omega)).trans hP) rfl (Nat.le_of_ble_eq_true rfl) (Nat.le_of_ble_eq_true rfl) (Nat.le_of_ble_eq_true rfl) (by decide) (by decide) (c8x ((hM.2.1 2 (by omega) (by omega) (by omega)).trans hP) ((hM.2.1 5 (by omega) (by omega) (by omega)).trans hV) hnv hVr h7) (fun o8 v9 hq10 => ?_)
        obtain ⟨rfl, rfl⟩ := hq10
        refine w_lst e11_26 (hM.2.2.2.1) (by omega) (by omega) (by decide) (fun v13 b11 h12 => ?_)
        obtain ⟨K14, hd15, hM16⟩ : ∃ z, z = vp_updL K_ (x2).toNat ((kof V (vz q5) (nv).toNat)) ∧ pm a0 n z F v0 v13 := ⟨_, rfl, pm_K hM b11 h12⟩
        refine w_iinc (A1 := [some (.ref 2), some (.ref a0), some (.int (vz (x2 + 1)))]) e11_27 rfl (by decide) rfl ?_
        refine w_x e11_30 (fun _ => rfl) ?_
        exact w_sub (A1 := [some (.ref 2), some (.ref a0), some (.int (vz (x2 + 1)))]) (And.intro rfl (And.intro rfl (And.intro rfl trivial))) ((ih) v13 K14 (x2 + 1) hM16 (by omega) (cvd_s hi0 (by omega) (by rw [h6]) hd15) (by omega))
set_option maxRecDepth 100000 in
set_option maxHeartbeats 4000000 in
theorem c11x {a0 : Nat} {n : Int} {K F : Nat → Int64} {v0 vh : vm_H} (hM : pm a0 n K F v0 vh) (hn : 0 ≤ n ∧ n ≤ 60) {nv : Int} {V : Nat → Int} (hP : vm_at v0 2 = some (.inr (0, [.int (vz nv), .ref 3, .ref 4, .ref 5]))) (hV : vm_at v0 5 = some (.inl (0, 8, .inl (fun j => vz (V j))))) (hnv : 0 ≤ nv ∧ nv ≤ 8) (hVr : ∀ j, 0 ≤ V j ∧ V j < 8) (ha : 7 ≤ a0) : vm_Rp 1 26 11 [.ref 2, .ref a0] vh (fun r v1 => (∃ K1 F1 : Nat → Int64, pm a0 n K1 F1 v0 v1 ∧ (ls (fun t => (K1 t, F1 t)) (n).toNat).Perm (ls (fun t => (kof V (K t).toInt32 (nv).toNat, F t)) (n).toNat) ∧ srt K1 n) ∧ r = none) := by
  refine w_in (m := 1) ?_
  show vm_Wp _ _ _ 0 [some (.ref 2), some (.ref a0), none] [] _ _
  refine w_kI e11_0 ?_
  refine w_stI (j := 2) (A1 := [some (.ref 2), some (.ref a0), some (.int (vz 0))]) e11_1 (fun _ => rfl) (by decide) rfl ?_
  exact w_sub (A1 := [some (.ref 2), some (.ref a0), some (.int (vz 0))]) (And.intro rfl (And.intro rfl (And.intro rfl trivial))) (((c11x_L (a0 := a0) (n := n) (K := K) (F := F) (v0 := v0) (nv := nv) (V := V) hn hP hV hnv hVr ha _)) vh K 0 hM (by omega) cvd_0 (Nat.lt_succ_self _))
