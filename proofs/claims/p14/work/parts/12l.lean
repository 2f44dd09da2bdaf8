set_option maxRecDepth 100000 in
set_option maxHeartbeats 4000000 in
theorem c82_L {vh : vm_H} {l_0 : Int64} {l_1 : Int64} (hA : -67108864 ≤ l_0.toInt ∧ l_0.toInt ≤ 67108864) (hB : -67108864 ≤ l_1.toInt ∧ l_1.toInt ≤ 67108864) : ∀ N : Nat, (∀ (y4 : Int64) (y6 : Int64), (0 ≤ y4.toInt ∧ y4.toInt ≤ 67108864 ∧ 0 ≤ y6.toInt ∧ y6.toInt ≤ 67108864) → (∀ g : Int, cmn g y4.toInt y6.toInt → cmn g (l_0.toInt.natAbs : Int) (l_1.toInt.natAbs : Int)) → ((y6.toInt : Int).toNat < N) → vm_Wp 0 0 82 28 [some (.long l_0), none, some (.long l_1), none, some (.long y4), none, some (.long y6), none, none, none] [] vh (vq_P 82 (fun r v1 => vh = v1 ∧ ∃ g : Int64, (cmn g.toInt (l_0.toInt.natAbs : Int) (l_1.toInt.natAbs : Int) ∧ g.toInt ≤ 67108864) ∧ r = some (.long g)))) := by
  intro N
  induction N with
  | zero => exact (by intros; omega)
  | succ N ih =>
    ·
      intro y4 y6 hi0 hi1 hN
      refine w_ldL e82_28 (fun _ => rfl) rfl ?_
      refine w_x e82_30 (fun _ => rfl) ?_
      refine w_lcmp e82_31 (fun q25 (h26 : -1 ≤ q25 ∧ q25 ≤ 1) h27 h28 => ?_)
      refine w_if e82_32 (by omega) (fun (h29 : q25 = 0) => ?_) (fun (h29 : q25 ≠ 0) => ?_)
      ·
        have hc30 := cm_z h27 h29
        refine w_ldL e82_53 (fun _ => rfl) rfl ?_
        exact w_rl e82_55 rfl ⟨rfl, y4, ⟨hi1 _ (cm_end (by omega) (by omega)), by omega⟩, rfl⟩
      ·
        have hc31 := cm_nz h27 h29
        refine w_ldL e82_35 (fun _ => rfl) rfl ?_
        refine w_ldL e82_37 (fun _ => rfl) rfl ?_
        have hr32 := l_rem (x := y4) (y := y6) (by omega) (by omega)
        have hc33 := Int.emod_nonneg y4.toInt (show y6.toInt ≠ 0 by omega)
        have hc34 := Int.emod_lt_of_pos y4.toInt (show 0 < y6.toInt by omega)
        refine w_rem e82_39 (fun hz => absurd (l_z.mp hz) (by omega)) ?_
        refine w_stL (j := 8) (A1 := [some (.long l_0), none, some (.long l_1), none, some (.long y4), none, some (.long y6), none, some (.long ((y4 - y4 / y6 * y6))), none]) e82_40 (fun _ => rfl) (by decide) rfl ?_
        refine w_ldL e82_42 (fun _ => rfl) rfl ?_
        refine w_stL (j := 4) (A1 := [some (.long l_0), none, some (.long l_1), none, some (.long y6), none, some (.long y6), none, some (.long ((y4 - y4 / y6 * y6))), none]) e82_44 (fun _ => rfl) (by decide) rfl ?_
        refine w_ldL e82_46 (fun _ => rfl) rfl ?_
        refine w_stL (j := 6) (A1 := [some (.long l_0), none, some (.long l_1), none, some (.long y6), none, some (.long ((y4 - y4 / y6 * y6))), none, some (.long ((y4 - y4 / y6 * y6))), none]) e82_48 (fun _ => rfl) (by decide) rfl ?_
        refine w_x e82_50 (fun _ => rfl) ?_
        exact w_sub (A1 := [some (.long l_0), none, some (.long l_1), none, some (.long y6), none, some (.long ((y4 - y4 / y6 * y6))), none, none, none]) (And.intro rfl (And.intro rfl (And.intro rfl (And.intro rfl trivial)))) ((ih) y6 ((y4 - y4 / y6 * y6)) (by omega) (fun g hg => hi1 g (cm_step (by omega) (by omega) (by rw [hr32] at hg; exact hg))) (by omega))
set_option maxRecDepth 100000 in
set_option maxHeartbeats 4000000 in
theorem c82 {vh : vm_H} {l_0 : Int64} {l_1 : Int64} (hA : -67108864 ≤ l_0.toInt ∧ l_0.toInt ≤ 67108864) (hB : -67108864 ≤ l_1.toInt ∧ l_1.toInt ≤ 67108864) : vm_Rp 0 0 82 [.long l_0, .long l_1] vh (fun r v1 => vh = v1 ∧ ∃ g : Int64, (cmn g.toInt (l_0.toInt.natAbs : Int) (l_1.toInt.natAbs : Int) ∧ g.toInt ≤ 67108864) ∧ r = some (.long g)) := by
  refine w_in (m := 6) ?_
  show vm_Wp _ _ _ 0 [some (.long l_0), none, some (.long l_1), none, none, none, none, none, none, none] [] _ _
  refine w_ldL e82_0 (fun _ => rfl) rfl ?_
  refine w_x e82_1 (fun _ => rfl) ?_
  refine w_lcmp e82_2 (fun q1 (h2 : -1 ≤ q1 ∧ q1 ≤ 1) h3 h4 => ?_)
  refine w_if e82_3 (by omega) (fun (h5 : 0 ≤ q1) => ?_) (fun (h5 : q1 < 0) => ?_)
  ·
    have hc6 := cm_ge h4 h5
    refine w_ldL e82_11 (fun _ => rfl) rfl ?_
    refine w_stL (j := 4) (A1 := [some (.long l_0), none, some (.long l_1), none, some (.long l_0), none, none, none, none, none]) e82_12 (fun _ => rfl) (by decide) rfl ?_
    refine w_ldL e82_14 (fun _ => rfl) rfl ?_
    refine w_x e82_15 (fun _ => rfl) ?_
    refine w_lcmp e82_16 (fun q7 (h8 : -1 ≤ q7 ∧ q7 ≤ 1) h9 h10 => ?_)
    refine w_if e82_17 (by omega) (fun (h11 : 0 ≤ q7) => ?_) (fun (h11 : q7 < 0) => ?_)
    ·
      have hc12 := cm_ge h10 h11
      refine w_ldL e82_25 (fun _ => rfl) rfl ?_
      refine w_stL (j := 6) (A1 := [some (.long l_0), none, some (.long l_1), none, some (.long l_0), none, some (.long l_1), none, none, none]) e82_26 (fun _ => rfl) (by decide) rfl ?_
      exact w_sub (A1 := [some (.long l_0), none, some (.long l_1), none, some (.long l_0), none, some (.long l_1), none, none, none]) (And.intro rfl (And.intro rfl (And.intro rfl (And.intro rfl trivial)))) (((c82_L (vh := vh) (l_0 := l_0) (l_1 := l_1) hA hB _)) l_0 l_1 (by omega) (cm_in (by omega) (by omega)) (Nat.lt_succ_self _))
    ·
      have hc13 := cm_lt h10 h11
      refine w_ldL e82_20 (fun _ => rfl) rfl ?_
      refine w_x e82_21 (fun _ => rfl) ?_
      have hc14 := l_neg (x := l_1) (by omega)
      refine w_x e82_22 (fun _ => rfl) ?_
      refine w_stL (j := 6) (A1 := [some (.long l_0), none, some (.long l_1), none, some (.long l_0), none, some (.long ((-l_1))), none, none, none]) e82_26 (fun _ => rfl) (by decide) rfl ?_
      exact w_sub (A1 := [some (.long l_0), none, some (.long l_1), none, some (.long l_0), none, some (.long ((-l_1))), none, none, none]) (And.intro rfl (And.intro rfl (And.intro rfl (And.intro rfl trivial)))) (((c82_L (vh := vh) (l_0 := l_0) (l_1 := l_1) hA hB _)) l_0 ((-l_1)) (by omega) (cm_in (by omega) (by omega)) (Nat.lt_succ_self _))
  ·
    have hc15 := cm_lt h4 h5
    refine w_ldL e82_6 (fun _ => rfl) rfl ?_
    refine w_x e82_7 (fun _ => rfl) ?_
    have hc16 := l_neg (x := l_0) (by omega)
    refine w_x e82_8 (fun _ => rfl) ?_
    refine w_stL (j := 4) (A1 := [some (.long l_0), none, some (.long l_1), none, some (.long ((-l_0))), none, none, none, none, none]) e82_12 (fun _ => rfl) (by decide) rfl ?_
    refine w_ldL e82_14 (fun _ => rfl) rfl ?_
    refine w_x e82_15 (fun _ => rfl) ?_
    refine w_lcmp e82_16 (fun q17 (h18 : -1 ≤ q17 ∧ q17 ≤ 1) h19 h20 => ?_)
    refine w_if e82_17 (by omega) (fun (h21 : 0 ≤ q17) => ?_) (fun (h21 : q17 < 0) => ?_)
    ·
      have hc22 := cm_ge h20 h21
      refine w_ldL e82_25 (fun _ => rfl) rfl ?_
      refine w_stL (j := 6) (A1 := [some (.long l_0), none, some (.long l_1), none, some (.long ((-l_0))), none, some (.long l_1), none, none, none]) e82_26 (fun _ => rfl) (by decide) rfl ?_
      exact w_sub (A1 := [some (.long l_0), none, some (.long l_1), none, some (.long ((-l_0))), none, some (.long l_1), none, none, none]) (And.intro rfl (And.intro rfl (And.intro rfl (And.intro rfl trivial)))) (((c82_L (vh := vh) (l_0 := l_0) (l_1 := l_1) hA hB _)) ((-l_0)) l_1 (by omega) (cm_in (by omega) (by omega)) (Nat.lt_succ_self _))
    ·
      have hc23 := cm_lt h20 h21
      refine w_ldL e82_20 (fun _ => rfl) rfl ?_
      refine w_x e82_21 (fun _ => rfl) ?_
      have hc24 := l_neg (x := l_1) (by omega)
      refine w_x e82_22 (fun _ => rfl) ?_
      refine w_stL (j := 6) (A1 := [some (.long l_0), none, some (.long l_1), none, some (.long ((-l_0))), none, some (.long ((-l_1))), none, none, none]) e82_26 (fun _ => rfl) (by decide) rfl ?_
      exact w_sub (A1 := [some (.long l_0), none, some (.long l_1), none, some (.long ((-l_0))), none, some (.long ((-l_1))), none, none, none]) (And.intro rfl (And.intro rfl (And.intro rfl (And.intro rfl trivial)))) (((c82_L (vh := vh) (l_0 := l_0) (l_1 := l_1) hA hB _)) ((-l_0)) ((-l_1)) (by omega) (cm_in (by omega) (by omega)) (Nat.lt_succ_self _))
