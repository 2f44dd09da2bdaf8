set_option maxRecDepth 100000 in
set_option maxHeartbeats 4000000 in
theorem c7x {vh : vm_H} {nv : Int} {V : Nat → Int} (hP : vm_at vh 2 = some (.inr (0, [.int (vz nv), .ref 3, .ref 4, .ref 5]))) (hV : vm_at vh 5 = some (.inl (0, 8, .inl (fun j => vz (V j))))) (hn : 0 ≤ nv ∧ nv ≤ 8) (hVr : ∀ j, 0 ≤ V j ∧ V j < 8) {i1 : Int} (hi_1 : -2147483648 ≤ i1 ∧ i1 < 2147483648) : vm_Rp 0 0 7 [.ref 2, .int (vz i1)] vh (fun r v1 => vh = v1 ∧ ∃ q : Int, ((0 ≤ q ∧ q ≤ 1) ∧ (q = 1 ↔ val (nv).toNat (vz i1))) ∧ r = some (.int (vz q))) := by
  refine w_in (m := 0) ?_
  show vm_Wp _ _ _ 0 [some (.ref 2), some (.int (vz i1))] [] _ _
  refine w_ldA e7_0 (fun _ => rfl) rfl ?_
  refine w_get e7_1 hP rfl ?_
  refine w_kB e7_4 rfl ?_
  refine w_ic e7_6 (by omega) (by omega) (fun (h1 : 8 ≤ nv) => ?_) (fun (h1 : nv < 8) => ?_)
  ·
    refine w_kI e7_20 ?_
    refine w_x e7_21 (fun _ => rfl) ?_
    exact w_rz e7_25 rfl (by omega) ⟨rfl, 1, ⟨by omega, fun _ => (by rw [show (nv).toNat = 8 by omega]; exact val_8), fun _ => rfl⟩, rfl⟩
  ·
    refine w_ldI e7_9 (fun _ => rfl) rfl ?_
    refine w_kI e7_10 ?_
    refine w_ldA e7_11 (fun _ => rfl) rfl ?_
    refine w_get e7_12 hP rfl ?_
    refine w_imul e7_15 ?_
    refine w_x e7_16 (fun _ => rfl) ?_
    obtain ⟨qs, hqs, hqr⟩ := vz_ex (((vz i1).toUInt32 >>> ((vz (4 * nv)).toUInt32 &&& Int32.toUInt32 31)).toInt32)
    show vm_Wp _ _ _ 17 _ [.int (((vz i1).toUInt32 >>> ((vz (4 * nv)).toUInt32 &&& Int32.toUInt32 31)).toInt32)] _ _
    rw [hqs]
    have hvs : qs = 0 ↔ val (nv).toNat (vz i1) := by rw [← val_sh (n := (nv).toNat) (by omega), show (((nv).toNat : Nat) : Int) = nv by omega, hqs]; exact (vz_inj hqr (by decide)).symm
    refine w_if e7_17 hqr (fun (h2 : qs ≠ 0) => ?_) (fun (h2 : qs = 0) => ?_)
    ·
      refine w_kI e7_24 ?_
      exact w_rz e7_25 rfl (by omega) ⟨rfl, 0, ⟨by omega, fun h9 => absurd h9 (by decide), fun h9 => absurd (hvs.mpr h9) (by omega)⟩, rfl⟩
    ·
      refine w_kI e7_20 ?_
      refine w_x e7_21 (fun _ => rfl) ?_
      exact w_rz e7_25 rfl (by omega) ⟨rfl, 1, ⟨by omega, fun _ => hvs.mp (by omega), fun _ => rfl⟩, rfl⟩
set_option maxRecDepth 100000 in
set_option maxHeartbeats 4000000 in
theorem c5x_L {vh : vm_H} {nv : Int} {V : Nat → Int} (hP : vm_at vh 2 = some (.inr (0, [.int (vz nv), .ref 3, .ref 4, .ref 5]))) (hV : vm_at vh 5 = some (.inl (0, 8, .inl (fun j => vz (V j))))) (hn : 0 ≤ nv ∧ nv ≤ 8) (hVr : ∀ j, 0 ≤ V j ∧ V j < 8) {i1 : Int} (hi_1 : -2147483648 ≤ i1 ∧ i1 < 2147483648) : ∀ N : Nat, (∀ (x2 : Int), (0 ≤ x2 ∧ x2 ≤ nv) → (∀ j : Nat, (j : Int) < x2 → V j ≠ i1) → ((8 - x2 : Int).toNat < N) → vm_Wp 0 0 5 2 [some (.ref 2), some (.int (vz i1)), some (.int (vz x2))] [] vh (vq_P 5 (fun r v1 => vh = v1 ∧ ∃ q : Int, ((0 ≤ q ∧ q < nv ∧ V (q).toNat = i1) ∨ (q = -1 ∧ ∀ j : Nat, (j : Int) < nv → V j ≠ i1)) ∧ r = some (.int (vz q))))) := by
  intro N
  induction N with
  | zero => exact (by intros; omega)
  | succ N ih =>
    intro x2 hx2 hi0 hN
    refine w_ldI e5_2 (fun _ => rfl) rfl ?_
    refine w_ldA e5_3 (fun _ => rfl) rfl ?_
    refine w_get e5_4 hP rfl ?_
    refine w_ic e5_7 (by omega) (by omega) (fun (h1 : nv ≤ x2) => ?_) (fun (h1 : x2 < nv) => ?_)
    ·
      refine w_kI e5_28 ?_
      exact w_ri e5_29 rfl ⟨rfl, -1, Or.inr ⟨rfl, fun j hj => hi0 j (by omega)⟩, rfl⟩
    ·
      refine w_ldA e5_10 (fun _ => rfl) rfl ?_
      refine w_get e5_11 hP rfl ?_
      refine w_ldI e5_14 (fun _ => rfl) rfl ?_
      refine w_ald e5_15 hV (by omega) (by omega) (by decide) ?_
      show vm_Wp _ _ _ 16 _ [.int (vz (V (x2).toNat))] _ _
      have hk2 := hVr (x2).toNat
      refine w_ldI e5_16 (fun _ => rfl) rfl ?_
      refine w_ic e5_17 (by omega) hi_1 (fun (h3 : V (x2).toNat ≠ i1) => ?_) (fun (h3 : V (x2).toNat = i1) => ?_)
      ·
        refine w_iinc (A1 := [some (.ref 2), some (.int (vz i1)), some (.int (vz (x2 + 1)))]) e5_22 rfl (by decide) rfl ?_
        refine w_x e5_25 (fun _ => rfl) ?_
        exact w_sub (A1 := [some (.ref 2), some (.int (vz i1)), some (.int (vz (x2 + 1)))]) (And.intro rfl (And.intro rfl (And.intro rfl trivial))) ((ih) (x2 + 1) (by omega) (fun j hj => by by_cases h9 : (j : Int) < x2; exact hi0 j h9; rw [show j = (x2).toNat by omega]; exact h3) (by omega))
      ·
        refine w_ldI e5_20 (fun _ => rfl) rfl ?_
        exact w_ri e5_21 rfl ⟨rfl, x2, Or.inl ⟨by omega, by omega, h3⟩, rfl⟩
set_option maxRecDepth 100000 in
set_option maxHeartbeats 4000000 in
theorem c5x {vh : vm_H} {nv : Int} {V : Nat → Int} (hP : vm_at vh 2 = some (.inr (0, [.int (vz nv), .ref 3, .ref 4, .ref 5]))) (hV : vm_at vh 5 = some (.inl (0, 8, .inl (fun j => vz (V j))))) (hn : 0 ≤ nv ∧ nv ≤ 8) (hVr : ∀ j, 0 ≤ V j ∧ V j < 8) {i1 : Int} (hi_1 : -2147483648 ≤ i1 ∧ i1 < 2147483648) : vm_Rp 0 0 5 [.ref 2, .int (vz i1)] vh (fun r v1 => vh = v1 ∧ ∃ q : Int, ((0 ≤ q ∧ q < nv ∧ V (q).toNat = i1) ∨ (q = -1 ∧ ∀ j : Nat, (j : Int) < nv → V j ≠ i1)) ∧ r = some (.int (vz q))) := by
  refine w_in (m := 1) ?_
  show vm_Wp _ _ _ 0 [some (.ref 2), some (.int (vz i1)), none] [] _ _
  refine w_kI e5_0 ?_
  refine w_stI (j := 2) (A1 := [some (.ref 2), some (.int (vz i1)), some (.int (vz 0))]) e5_1 (fun _ => rfl) (by decide) rfl ?_
  exact w_sub (A1 := [some (.ref 2), some (.int (vz i1)), some (.int (vz 0))]) (And.intro rfl (And.intro rfl (And.intro rfl trivial))) (((c5x_L (vh := vh) (nv := nv) (V := V) (i1 := i1) hP hV hn hVr hi_1 _)) 0 (by omega) (fun j hj => by omega) (Nat.lt_succ_self _))
