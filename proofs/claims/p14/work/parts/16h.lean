set_option maxRecDepth 100000 in
set_option maxHeartbeats 4000000 in
theorem c8x_L {vh : vm_H} {nv : Int} {V : Nat → Int} (hP : vm_at vh 2 = some (.inr (0, [.int (vz nv), .ref 3, .ref 4, .ref 5]))) (hV : vm_at vh 5 = some (.inl (0, 8, .inl (fun j => vz (V j))))) (hn : 0 ≤ nv ∧ nv ≤ 8) (hVr : ∀ j, 0 ≤ V j ∧ V j < 8) {i1 : Int} (hi_1 : -2147483648 ≤ i1 ∧ i1 < 2147483648) : ∀ N : Nat, (∀ (y2 : Int64) (x4 : Int), (0 ≤ x4 ∧ x4 ≤ nv) → (y2 = kof V (vz i1) (x4).toNat) → ((8 - x4 : Int).toNat < N) → vm_Wp 0 0 8 5 [some (.ref 2), some (.int (vz i1)), some (.long y2), none, some (.int (vz x4)), none, none] [] vh (vq_P 8 (fun r v1 => vh = v1 ∧ r = some (.long (kof V (vz i1) (nv).toNat))))) := by
  intro N
  induction N with
  | zero => exact (by intros; omega)
  | succ N ih =>
    intro y2 x4 hx4 hi0 hN
    refine w_ldI e8_5 (fun _ => rfl) rfl ?_
    refine w_ldA e8_7 (fun _ => rfl) rfl ?_
    refine w_get e8_8 hP rfl ?_
    refine w_ic e8_11 (by omega) (by omega) (fun (h1 : nv ≤ x4) => ?_) (fun (h1 : x4 < nv) => ?_)
    ·
      refine w_ldL e8_48 (fun _ => rfl) rfl ?_
      exact w_rl e8_49 rfl ⟨rfl, by rw [hi0, show x4 = nv by omega]⟩
    ·
      refine w_ldI e8_14 (fun _ => rfl) rfl ?_
      refine w_kI e8_15 ?_
      refine w_ldA e8_16 (fun _ => rfl) rfl ?_
      refine w_get e8_17 hP rfl ?_
      refine w_ldI e8_20 (fun _ => rfl) rfl ?_
      refine w_ald e8_22 hV (by omega) (by omega) (by decide) ?_
      show vm_Wp _ _ _ 23 _ [.int (vz (V (x4).toNat)), .int (vz 4), .int (vz i1)] _ _
      have hk2 := hVr (x4).toNat
      refine w_imul e8_23 ?_
      refine w_x e8_24 (fun _ => rfl) ?_
      refine w_kB e8_25 rfl ?_
      refine w_x e8_27 (fun _ => rfl) ?_
      refine w_x e8_28 (fun _ => rfl) ?_
      refine w_stL (j := 5) (A1 := [some (.ref 2), some (.int (vz i1)), some (.long y2), none, some (.int (vz x4)), some (.long (((nbl (vz i1) (V (x4).toNat)).toInt64))), none]) e8_29 (fun _ => rfl) (by decide) rfl ?_
      refine w_ldL e8_31 (fun _ => rfl) rfl ?_
      refine w_ldL e8_32 (fun _ => rfl) rfl ?_
      refine w_kB e8_34 rfl ?_
      refine w_ldI e8_36 (fun _ => rfl) rfl ?_
      refine w_imul e8_38 ?_
      refine w_x e8_39 (fun _ => rfl) ?_
      refine w_x e8_40 (fun _ => rfl) ?_
      refine w_stL (j := 2) (A1 := [some (.ref 2), some (.int (vz i1)), some (.long ((y2 ||| ((nbl (vz i1) (V (x4).toNat)).toInt64 <<< ((vz (8 * x4)).toInt64 &&& 63))))), none, some (.int (vz x4)), some (.long (((nbl (vz i1) (V (x4).toNat)).toInt64))), none]) e8_41 (fun _ => rfl) (by decide) rfl ?_
      refine w_iinc (A1 := [some (.ref 2), some (.int (vz i1)), some (.long ((y2 ||| ((nbl (vz i1) (V (x4).toNat)).toInt64 <<< ((vz (8 * x4)).toInt64 &&& 63))))), none, some (.int (vz (x4 + 1))), some (.long (((nbl (vz i1) (V (x4).toNat)).toInt64))), none]) e8_42 rfl (by decide) rfl ?_
      refine w_x e8_45 (fun _ => rfl) ?_
      exact w_sub (A1 := [some (.ref 2), some (.int (vz i1)), some (.long ((y2 ||| ((nbl (vz i1) (V (x4).toNat)).toInt64 <<< ((vz (8 * x4)).toInt64 &&& 63))))), none, some (.int (vz (x4 + 1))), none, none]) (And.intro rfl (And.intro rfl (And.intro rfl (And.intro rfl trivial)))) ((ih) ((y2 ||| ((nbl (vz i1) (V (x4).toNat)).toInt64 <<< ((vz (8 * x4)).toInt64 &&& 63)))) (x4 + 1) (by omega) (kof_s hi0 (by omega)) (by omega))
set_option maxRecDepth 100000 in
set_option maxHeartbeats 4000000 in
theorem c8x {vh : vm_H} {nv : Int} {V : Nat → Int} (hP : vm_at vh 2 = some (.inr (0, [.int (vz nv), .ref 3, .ref 4, .ref 5]))) (hV : vm_at vh 5 = some (.inl (0, 8, .inl (fun j => vz (V j))))) (hn : 0 ≤ nv ∧ nv ≤ 8) (hVr : ∀ j, 0 ≤ V j ∧ V j < 8) {i1 : Int} (hi_1 : -2147483648 ≤ i1 ∧ i1 < 2147483648) : vm_Rp 0 0 8 [.ref 2, .int (vz i1)] vh (fun r v1 => vh = v1 ∧ r = some (.long (kof V (vz i1) (nv).toNat))) := by
  refine w_in (m := 5) ?_
  show vm_Wp _ _ _ 0 [some (.ref 2), some (.int (vz i1)), none, none, none, none, none] [] _ _
  refine w_x e8_0 (fun _ => rfl) ?_
  refine w_stL (j := 2) (A1 := [some (.ref 2), some (.int (vz i1)), some (.long ((Int64.ofNat 0))), none, none, none, none]) e8_1 (fun _ => rfl) (by decide) rfl ?_
  refine w_kI e8_2 ?_
  refine w_stI (j := 4) (A1 := [some (.ref 2), some (.int (vz i1)), some (.long ((Int64.ofNat 0))), none, some (.int (vz 0)), none, none]) e8_3 (fun _ => rfl) (by decide) rfl ?_
  exact w_sub (A1 := [some (.ref 2), some (.int (vz i1)), some (.long ((Int64.ofNat 0))), none, some (.int (vz 0)), none, none]) (And.intro rfl (And.intro rfl (And.intro rfl (And.intro rfl trivial)))) (((c8x_L (vh := vh) (nv := nv) (V := V) (i1 := i1) hP hV hn hVr hi_1 _)) ((Int64.ofNat 0)) 0 (by omega) rfl (Nat.lt_succ_self _))
set_option maxRecDepth 100000 in
set_option maxHeartbeats 4000000 in
theorem c9x_L {vh : vm_H} {nv : Int} {V : Nat → Int} (hP : vm_at vh 2 = some (.inr (0, [.int (vz nv), .ref 3, .ref 4, .ref 5]))) (hV : vm_at vh 5 = some (.inl (0, 8, .inl (fun j => vz (V j))))) (hn : 0 ≤ nv ∧ nv ≤ 8) (hVr : ∀ j, 0 ≤ V j ∧ V j < 8) {l_1 : Int64} : ∀ N : Nat, (∀ (x3 : Int) (x4 : Int), (-2147483648 ≤ x3 ∧ x3 < 2147483648) → (0 ≤ x4 ∧ x4 ≤ nv) → (vz x3 = pof V l_1 (x4).toNat) → ((8 - x4 : Int).toNat < N) → vm_Wp 1 22 9 5 [some (.ref 2), some (.long l_1), none, some (.int (vz x3)), some (.int (vz x4))] [] vh (vq_P 9 (fun r v1 => vh = v1 ∧ r = some (.int (pof V l_1 (nv).toNat))))) := by
  intro N
  induction N with
  | zero => exact (by intros; omega)
  | succ N ih =>
    intro x3 x4 hx3 hx4 hi0 hN
    refine w_ldI e9_5 (fun _ => rfl) rfl ?_
    refine w_ldA e9_7 (fun _ => rfl) rfl ?_
    refine w_get e9_8 hP rfl ?_
    refine w_ic e9_11 (by omega) (by omega) (fun (h1 : nv ≤ x4) => ?_) (fun (h1 : x4 < nv) => ?_)
    ·
      refine w_ldI e9_39 (fun _ => rfl) rfl ?_
      exact w_ri e9_40 rfl ⟨rfl, by rw [hi0, show x4 = nv by omega]⟩
    ·
      refine w_ldI e9_14 (fun _ => rfl) rfl ?_
      refine w_ldL e9_15 (fun _ => rfl) rfl ?_
      refine w_ldI e9_16 (fun _ => rfl) rfl ?_
      refine w_cs e9_18 (by decide) (Nat.le_of_ble_eq_true rfl) (Nat.le_of_ble_eq_true rfl) (Nat.le_of_ble_eq_true rfl) (by decide) (by decide) c73x (fun o2 v3 hq4 => ?_)
      obtain ⟨rfl, rfl⟩ := hq4
      refine w_kI e9_21 ?_
      refine w_ldA e9_22 (fun _ => rfl) rfl ?_
      refine w_get e9_23 hP rfl ?_
      refine w_ldI e9_26 (fun _ => rfl) rfl ?_
      refine w_ald e9_28 hV (by omega) (by omega) (by decide) ?_
      show vm_Wp _ _ _ 29 _ [.int (vz (V (x4).toNat)), .int (vz 4), .int (vz (pw l_1 x4)), .int (vz x3)] _ _
      have hk5 := hVr (x4).toNat
      refine w_imul e9_29 ?_
      refine w_x e9_30 (fun _ => rfl) ?_
      refine w_x e9_31 (fun _ => rfl) ?_
      obtain ⟨qz, hqz, hqr⟩ := vz_ex (vz x3 ||| (vz (pw l_1 x4) <<< (vz (4 * V (x4).toNat) &&& 31)))
      show vm_Wp _ _ _ 32 _ [.int (vz x3 ||| (vz (pw l_1 x4) <<< (vz (4 * V (x4).toNat) &&& 31)))] _ _
      have hpo : vz qz = pof V l_1 (x4 + 1).toNat := by rw [← hqz]; exact pof_s hi0 (by omega)
      rw [hqz]
      refine w_stI (j := 3) (A1 := [some (.ref 2), some (.long l_1), none, some (.int (vz qz)), some (.int (vz x4))]) e9_32 (fun _ => rfl) (by decide) rfl ?_
      refine w_iinc (A1 := [some (.ref 2), some (.long l_1), none, some (.int (vz qz)), some (.int (vz (x4 + 1)))]) e9_33 rfl (by decide) rfl ?_
      refine w_x e9_36 (fun _ => rfl) ?_
      exact w_sub (A1 := [some (.ref 2), some (.long l_1), none, some (.int (vz qz)), some (.int (vz (x4 + 1)))]) (And.intro rfl (And.intro rfl (And.intro rfl (And.intro rfl trivial)))) ((ih) qz (x4 + 1) hqr (by omega) hpo (by omega))
set_option maxRecDepth 100000 in
set_option maxHeartbeats 4000000 in
theorem c9x {vh : vm_H} {nv : Int} {V : Nat → Int} (hP : vm_at vh 2 = some (.inr (0, [.int (vz nv), .ref 3, .ref 4, .ref 5]))) (hV : vm_at vh 5 = some (.inl (0, 8, .inl (fun j => vz (V j))))) (hn : 0 ≤ nv ∧ nv ≤ 8) (hVr : ∀ j, 0 ≤ V j ∧ V j < 8) {l_1 : Int64} : vm_Rp 1 22 9 [.ref 2, .long l_1] vh (fun r v1 => vh = v1 ∧ r = some (.int (pof V l_1 (nv).toNat))) := by
  refine w_in (m := 2) ?_
  show vm_Wp _ _ _ 0 [some (.ref 2), some (.long l_1), none, none, none] [] _ _
  refine w_kI e9_0 ?_
  refine w_stI (j := 3) (A1 := [some (.ref 2), some (.long l_1), none, some (.int (vz 0)), none]) e9_1 (fun _ => rfl) (by decide) rfl ?_
  refine w_kI e9_2 ?_
  refine w_stI (j := 4) (A1 := [some (.ref 2), some (.long l_1), none, some (.int (vz 0)), some (.int (vz 0))]) e9_3 (fun _ => rfl) (by decide) rfl ?_
  exact w_sub (A1 := [some (.ref 2), some (.long l_1), none, some (.int (vz 0)), some (.int (vz 0))]) (And.intro rfl (And.intro rfl (And.intro rfl (And.intro rfl trivial)))) (((c9x_L (vh := vh) (nv := nv) (V := V) (l_1 := l_1) hP hV hn hVr _)) 0 0 (by omega) (by omega) rfl (Nat.lt_succ_self _))
