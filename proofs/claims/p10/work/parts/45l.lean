set_option maxRecDepth 100000 in
set_option maxHeartbeats 4000000 in
theorem k61_L {Z : Nat → Nat → Int} {al : Nat → Nat → Int64} {ai : Nat → Nat → Int} {az : Nat → Nat → Int32} {mm : Nat → Option Nat} {sk : Nat} {v0 vh : vm_H} (hM : tk Z al ai az mm sk v0 vh) (hk : kn Z) (hp : 0 ≤ Z 1 0 ∧ Z 1 0 ≤ 16) : ∀ N : Nat, (∀ (x1 : Int) (x2 : Int), (0 ≤ x1 ∧ x1 ≤ x2) → (0 ≤ x2 ∧ x2 ≤ Z 1 0) → (x1 = hcF (hyK az) (x2).toNat) → ((17 - x2 : Int).toNat < N) → vm_Wp 0 0 61 4 [some (.ref 1), some (.int (vz x1)), some (.int (vz x2))] [] vh (vq_P 61 (fun r v1 => vh = v1 ∧ ∃ q : Int, q = hcF (hyK az) (Z 1 0).toNat ∧ r = some (.int (vz q))))) := by
  intro N
  induction N with
  | zero => exact (by intros; omega)
  | succ N ih =>
    ·
      intro x1 x2 hx1 hx2 hi0q hN
      refine w_ldI e61_4 (fun _ => rfl) rfl ?_
      refine w_ldA e61_5 (fun _ => rfl) rfl ?_
      have e1 := tk_main hM
      refine w_get e61_6 e1 rfl ?_
      refine w_ic e61_9 (by omega) (tk_r hM 1 0) (fun (h2 : Z 1 0 ≤ x2) => ?_) (fun (h2 : x2 < Z 1 0) => ?_)
      ·
        refine w_ldI e61_30 (fun _ => rfl) rfl ?_
        exact w_ri e61_31 rfl ⟨rfl, x1, by rw [hi0q, show x2 = Z 1 0 by omega], rfl⟩
      ·
        refine w_ldA e61_12 (fun _ => rfl) rfl ?_
        refine w_get e61_13 e1 rfl ?_
        refine w_ldI e61_16 (fun _ => rfl) rfl ?_
        have e3 := tk_hyps hM
        refine w_zldO e61_17 e3 (by omega) (by omega) (by decide) (fun q4 h5 h6 => ?_)
        refine w_if e61_18 h5 (fun (h7 : q4 = 0) => ?_) (fun (h7 : q4 ≠ 0) => ?_)
        ·
          refine w_iinc (A1 := [some (.ref 1), some (.int (vz x1)), some (.int (vz (x2 + 1)))]) e61_24 rfl (by decide) rfl ?_
          refine w_x e61_27 (fun _ => rfl) ?_
          exact w_sub (A1 := [some (.ref 1), some (.int (vz x1)), some (.int (vz (x2 + 1)))]) (And.intro rfl (And.intro rfl (And.intro rfl trivial))) ((ih) x1 (x2 + 1) (by omega) (by omega) (hc_s hx2.1 hi0q (by rw [if_neg (fun h9 => absurd ((hyK_q h6 h5).mp h9) (by omega))]; omega)) (by omega))
        ·
          refine w_iinc (A1 := [some (.ref 1), some (.int (vz (x1 + 1))), some (.int (vz x2))]) e61_21 rfl (by decide) rfl ?_
          refine w_iinc (A1 := [some (.ref 1), some (.int (vz (x1 + 1))), some (.int (vz (x2 + 1)))]) e61_24 rfl (by decide) rfl ?_
          refine w_x e61_27 (fun _ => rfl) ?_
          exact w_sub (A1 := [some (.ref 1), some (.int (vz (x1 + 1))), some (.int (vz (x2 + 1)))]) (And.intro rfl (And.intro rfl (And.intro rfl trivial))) ((ih) (x1 + 1) (x2 + 1) (by omega) (by omega) (hc_s hx2.1 hi0q (by rw [if_pos ((hyK_q h6 h5).mpr (by omega))])) (by omega))
set_option maxRecDepth 100000 in
set_option maxHeartbeats 4000000 in
theorem k61 {Z : Nat → Nat → Int} {al : Nat → Nat → Int64} {ai : Nat → Nat → Int} {az : Nat → Nat → Int32} {mm : Nat → Option Nat} {sk : Nat} {v0 vh : vm_H} (hM : tk Z al ai az mm sk v0 vh) (hk : kn Z) (hp : 0 ≤ Z 1 0 ∧ Z 1 0 ≤ 16) : vm_Rp 0 0 61 [.ref 1] vh (fun r v1 => vh = v1 ∧ ∃ q : Int, q = hcF (hyK az) (Z 1 0).toNat ∧ r = some (.int (vz q))) := by
  refine w_in (m := 2) ?_
  show vm_Wp _ _ _ 0 [some (.ref 1), none, none] [] _ _
  refine w_kI e61_0 ?_
  refine w_stI (j := 1) (A1 := [some (.ref 1), some (.int (vz 0)), none]) e61_1 (fun _ => rfl) (by decide) rfl ?_
  refine w_kI e61_2 ?_
  refine w_stI (j := 2) (A1 := [some (.ref 1), some (.int (vz 0)), some (.int (vz 0))]) e61_3 (fun _ => rfl) (by decide) rfl ?_
  exact w_sub (A1 := [some (.ref 1), some (.int (vz 0)), some (.int (vz 0))]) (And.intro rfl (And.intro rfl (And.intro rfl trivial))) (((k61_L (Z := Z) (al := al) (ai := ai) (az := az) (mm := mm) (sk := sk) (v0 := v0) (vh := vh) hM hk hp _)) 0 0 (by omega) (by omega) rfl (Nat.lt_succ_self _))
set_option maxRecDepth 100000 in
set_option maxHeartbeats 4000000 in
theorem k52 {Z : Nat → Nat → Int} {al : Nat → Nat → Int64} {ai : Nat → Nat → Int} {az : Nat → Nat → Int32} {mm : Nat → Option Nat} {sk : Nat} {v0 vh : vm_H} (hM : tk Z al ai az mm sk v0 vh) (hk : kn Z) {i1 : Int} (hi_1 : -2147483648 ≤ i1 ∧ i1 < 2147483648) (hp : 0 ≤ Z 1 0 ∧ Z 1 0 ≤ 16) : vm_Rp 1 22 52 [.ref 1, .int (vz i1)] vh (fun r v1 => vh = v1 ∧ ∃ q : Int, ((i1 = 0 ∧ q = Z 2 0) ∨ (i1 = 1 ∧ q = Z 1 0) ∨ (i1 = 2 ∧ q = hcF (hyK az) (Z 1 0).toNat) ∨ (i1 = 3 ∧ q = Z 217 0) ∨ (i1 = 4 ∧ q = Z 1 3) ∨ (i1 = 5 ∧ q = Z 1 1) ∨ (i1 = 6 ∧ q = Z 1 4) ∨ (i1 = 7 ∧ q = Z 1 5) ∨ (i1 = 8 ∧ q = Z 224 0) ∨ (i1 = 9 ∧ q = Z 227 0) ∨ ((i1 < 0 ∨ 9 < i1) ∧ q = -1)) ∧ r = some (.int (vz q))) := by
  refine w_in (m := 0) ?_
  show vm_Wp _ _ _ 0 [some (.ref 1), some (.int (vz i1))] [] _ _
  refine w_ldI e52_0 (fun _ => rfl) rfl ?_
  by_cases h1 : i1 < 0 ∨ 9 < i1
  ·
    refine w_swO (t := 118) e52_1 hi_1 h1 rfl ?_
    refine w_kI e52_118 ?_
    exact w_ri e52_119 rfl ⟨rfl, -1, Or.inr (Or.inr (Or.inr (Or.inr (Or.inr (Or.inr (Or.inr (Or.inr (Or.inr (Or.inr (⟨by omega, rfl⟩)))))))))), rfl⟩
  ·
    have h2 : i1 = 0 ∨ i1 = 1 ∨ i1 = 2 ∨ i1 = 3 ∨ i1 = 4 ∨ i1 = 5 ∨ i1 = 6 ∨ i1 = 7 ∨ i1 = 8 ∨ i1 = 9 := by omega
    rcases h2 with h2 | h2 | h2 | h2 | h2 | h2 | h2 | h2 | h2 | h2
    ·
      refine w_swI (t := 56) e52_1 hi_1 h1 (by rw [h2]; rfl) rfl ?_
      refine w_ldA e52_56 (fun _ => rfl) rfl ?_
      have e3 := tk_main hM
      refine w_get e52_57 e3 rfl ?_
      have e4 := tk_pla hM
      refine w_get e52_60 e4 rfl ?_
      exact w_ri e52_63 rfl ⟨rfl, Z 2 0, Or.inl ⟨by omega, rfl⟩, rfl⟩
    ·
      refine w_swI (t := 64) e52_1 hi_1 h1 (by rw [h2]; rfl) rfl ?_
      refine w_ldA e52_64 (fun _ => rfl) rfl ?_
      have e5 := tk_main hM
      refine w_get e52_65 e5 rfl ?_
      exact w_ri e52_68 rfl ⟨rfl, Z 1 0, Or.inr (Or.inl ⟨by omega, rfl⟩), rfl⟩
    ·
      refine w_swI (t := 69) e52_1 hi_1 h1 (by rw [h2]; rfl) rfl ?_
      refine w_ldA e52_69 (fun _ => rfl) rfl ?_
      have e6 := tk_main hM
      refine w_cv e52_70 (by decide) rfl e6 rfl (Nat.le_of_ble_eq_true rfl) (Nat.le_of_ble_eq_true rfl) (Nat.le_of_ble_eq_true rfl) (by decide) (by decide) (k61 hM hk hp) (fun o7 v8 hq9 => ?_)
      obtain ⟨rfl, q10, h11, rfl⟩ := hq9
      exact w_ri e52_73 rfl ⟨rfl, q10, Or.inr (Or.inr (Or.inl ⟨by omega, h11⟩)), rfl⟩
    ·
      refine w_swI (t := 74) e52_1 hi_1 h1 (by rw [h2]; rfl) rfl ?_
      refine w_ldA e52_74 (fun _ => rfl) rfl ?_
      have e12 := tk_main hM
      refine w_get e52_75 e12 rfl ?_
      have e13 := tk_tri hM
      refine w_get e52_78 e13 rfl ?_
      exact w_ri e52_81 rfl ⟨rfl, Z 217 0, Or.inr (Or.inr (Or.inr (Or.inl ⟨by omega, rfl⟩))), rfl⟩
    ·
      refine w_swI (t := 82) e52_1 hi_1 h1 (by rw [h2]; rfl) rfl ?_
      refine w_ldA e52_82 (fun _ => rfl) rfl ?_
      have e14 := tk_main hM
      refine w_get e52_83 e14 rfl ?_
      exact w_ri e52_86 rfl ⟨rfl, Z 1 3, Or.inr (Or.inr (Or.inr (Or.inr (Or.inl ⟨by omega, rfl⟩)))), rfl⟩
    ·
      refine w_swI (t := 87) e52_1 hi_1 h1 (by rw [h2]; rfl) rfl ?_
      refine w_ldA e52_87 (fun _ => rfl) rfl ?_
      have e15 := tk_main hM
      refine w_get e52_88 e15 rfl ?_
      exact w_ri e52_91 rfl ⟨rfl, Z 1 1, Or.inr (Or.inr (Or.inr (Or.inr (Or.inr (Or.inl ⟨by omega, rfl⟩))))), rfl⟩
    ·
      refine w_swI (t := 92) e52_1 hi_1 h1 (by rw [h2]; rfl) rfl ?_
      refine w_ldA e52_92 (fun _ => rfl) rfl ?_
      have e16 := tk_main hM
      refine w_get e52_93 e16 rfl ?_
      exact w_ri e52_96 rfl ⟨rfl, Z 1 4, Or.inr (Or.inr (Or.inr (Or.inr (Or.inr (Or.inr (Or.inl ⟨by omega, rfl⟩)))))), rfl⟩
    ·
      refine w_swI (t := 97) e52_1 hi_1 h1 (by rw [h2]; rfl) rfl ?_
      refine w_ldA e52_97 (fun _ => rfl) rfl ?_
      have e17 := tk_main hM
      refine w_get e52_98 e17 rfl ?_
      exact w_ri e52_101 rfl ⟨rfl, Z 1 5, Or.inr (Or.inr (Or.inr (Or.inr (Or.inr (Or.inr (Or.inr (Or.inl ⟨by omega, rfl⟩))))))), rfl⟩
    ·
      refine w_swI (t := 102) e52_1 hi_1 h1 (by rw [h2]; rfl) rfl ?_
      refine w_ldA e52_102 (fun _ => rfl) rfl ?_
      have e18 := tk_main hM
      refine w_get e52_103 e18 rfl ?_
      have e19 := tk_poly hM (rfl : ty 224 = 1)
      have hk20 := hk 224 (rfl : ty 224 = 1)
      refine w_get e52_106 e19 rfl ?_
      exact w_ri e52_109 rfl ⟨rfl, Z 224 0, Or.inr (Or.inr (Or.inr (Or.inr (Or.inr (Or.inr (Or.inr (Or.inr (Or.inl ⟨by omega, rfl⟩)))))))), rfl⟩
    ·
      refine w_swI (t := 110) e52_1 hi_1 h1 (by rw [h2]; rfl) rfl ?_
      refine w_ldA e52_110 (fun _ => rfl) rfl ?_
      have e21 := tk_main hM
      refine w_get e52_111 e21 rfl ?_
      have e22 := tk_poly hM (rfl : ty 227 = 1)
      have hk23 := hk 227 (rfl : ty 227 = 1)
      refine w_get e52_114 e22 rfl ?_
      exact w_ri e52_117 rfl ⟨rfl, Z 227 0, Or.inr (Or.inr (Or.inr (Or.inr (Or.inr (Or.inr (Or.inr (Or.inr (Or.inr (Or.inl ⟨by omega, rfl⟩))))))))), rfl⟩
