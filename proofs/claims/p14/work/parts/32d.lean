set_option maxRecDepth 100000 in
set_option maxHeartbeats 4000000 in
theorem r79_L {sc : Nat → Int} {ai : Nat → Nat → Int} {al : Nat → Nat → Int64} {az : Nat → Nat → Int32} {v0 vh : vm_H} (hM : tm sc ai al az v0 vh) (hK : tmok ai) {l_1 : Int64} {nv : Nat} (hv : sc 1 = (nv : Int)) (hV : pmV (vR ai) nv) {Nk : Nat} (hl1 : l_1 = Int64.ofNat (tr (vR ai) nv Nk)) (hNk : Nk < 256 ^ nv) : ∀ N : Nat, (∀ (y3 : Int64) (x5 : Int), (-1 ≤ x5 ∧ x5 < sc 1) → (y3 = Int64.ofNat (Nk / 256 ^ (x5 + 1).toNat)) → ((x5 + 1 : Int).toNat < N) → vm_Wp 1 22 79 10 [some (.ref 238), some (.long l_1), none, some (.long y3), none, some (.int (vz x5))] [] vh (vq_P 79 (fun r v1 => vh = v1 ∧ r = some (.long (Int64.ofNat Nk))))) := by
  have hn8 := hV.1
  intro N
  induction N with
  | zero => exact (by intros; omega)
  | succ N ih =>
    ·
      intro y3 x5 hx5 hi0 hN
      refine w_ldI e79_10 (fun _ => rfl) rfl ?_
      refine w_if e79_12 (by omega) (fun (h2 : x5 < 0) => ?_) (fun (h2 : 0 ≤ x5) => ?_)
      ·
        refine w_ldL e79_39 (fun _ => rfl) rfl ?_
        exact w_rl e79_40 rfl ⟨rfl, by rw [hi0, show (x5 + 1).toNat = 0 by omega, Nat.pow_zero, Nat.div_one]⟩
      ·
        refine w_ldL e79_15 (fun _ => rfl) rfl ?_
        refine w_kB e79_16 rfl ?_
        refine w_x e79_18 (fun _ => rfl) ?_
        refine w_ldL e79_19 (fun _ => rfl) rfl ?_
        refine w_ldA e79_20 (fun _ => rfl) rfl ?_
        have e3 := tm_o hM
        refine w_get e79_21 e3 rfl ?_
        refine w_ldI e79_24 (fun _ => rfl) rfl ?_
        have e4 := tm_i hM (a := 240) (n := 8) rfl
        refine w_ald e79_26 e4 (by omega) (by omega) (by decide) ?_
        show vm_Wp _ _ _ 27 _ [.int (vz (ai 240 (x5).toNat)), .long l_1, .long ((y3 <<< ((vz 8).toInt64 &&& 63)))] _ _
        have hk5 := hK.2 (x5).toNat
        refine w_cs e79_27 (by decide) (Nat.le_of_ble_eq_true rfl) (Nat.le_of_ble_eq_true rfl) (Nat.le_of_ble_eq_true rfl) (by decide) (by decide) (c78 (tm_r hM 240 (x5).toNat)) (fun o6 v7 hq8 => ?_)
        obtain ⟨rfl, rfl⟩ := hq8
        have hp9 := pw_bd l_1 (ai 240 (x5).toNat)
        refine w_x e79_30 (fun _ => rfl) ?_
        refine w_x e79_31 (fun _ => rfl) ?_
        refine w_stL (j := 3) (A1 := [some (.ref 238), some (.long l_1), none, some (.long ((((y3 <<< ((vz 8).toInt64 &&& 63))) ||| (((vz (pw l_1 (ai 240 (x5).toNat))).toInt64))))), none, some (.int (vz x5))]) e79_32 (fun _ => rfl) (by decide) rfl ?_
        refine w_iinc (A1 := [some (.ref 238), some (.long l_1), none, some (.long ((((y3 <<< ((vz 8).toInt64 &&& 63))) ||| (((vz (pw l_1 (ai 240 (x5).toNat))).toInt64))))), none, some (.int (vz (x5 + (-1))))]) e79_33 rfl (by decide) rfl ?_
        refine w_x e79_36 (fun _ => rfl) ?_
        exact w_sub (A1 := [some (.ref 238), some (.long l_1), none, some (.long ((((y3 <<< ((vz 8).toInt64 &&& 63))) ||| (((vz (pw l_1 (ai 240 (x5).toNat))).toInt64))))), none, some (.int (vz (x5 + (-1))))]) (And.intro rfl (And.intro rfl (And.intro rfl (And.intro rfl trivial)))) ((ih) ((((y3 <<< ((vz 8).toInt64 &&& 63))) ||| (((vz (pw l_1 (ai 240 (x5).toNat))).toInt64)))) (x5 + (-1)) (by omega) (rk_s hV hNk (by omega) hl1 (rk_o hK (by omega)) hi0) (by omega))
set_option maxRecDepth 100000 in
set_option maxHeartbeats 4000000 in
theorem r79 {sc : Nat → Int} {ai : Nat → Nat → Int} {al : Nat → Nat → Int64} {az : Nat → Nat → Int32} {v0 vh : vm_H} (hM : tm sc ai al az v0 vh) (hK : tmok ai) {l_1 : Int64} {nv : Nat} (hv : sc 1 = (nv : Int)) (hV : pmV (vR ai) nv) {Nk : Nat} (hl1 : l_1 = Int64.ofNat (tr (vR ai) nv Nk)) (hNk : Nk < 256 ^ nv) : vm_Rp 1 22 79 [.ref 238, .long l_1] vh (fun r v1 => vh = v1 ∧ r = some (.long (Int64.ofNat Nk))) := by
  have hn8 := hV.1
  refine w_in (m := 3) ?_
  show vm_Wp _ _ _ 0 [some (.ref 238), some (.long l_1), none, none, none, none] [] _ _
  refine w_x e79_0 (fun _ => rfl) ?_
  refine w_stL (j := 3) (A1 := [some (.ref 238), some (.long l_1), none, some (.long ((Int64.ofNat 0))), none, none]) e79_1 (fun _ => rfl) (by decide) rfl ?_
  refine w_ldA e79_2 (fun _ => rfl) rfl ?_
  have e1 := tm_o hM
  refine w_get e79_3 e1 rfl ?_
  refine w_kI e79_6 ?_
  refine w_isub e79_7 ?_
  refine w_stI (j := 5) (A1 := [some (.ref 238), some (.long l_1), none, some (.long ((Int64.ofNat 0))), none, some (.int (vz ((sc 1) - 1)))]) e79_8 (fun _ => rfl) (by decide) rfl ?_
  exact w_sub (A1 := [some (.ref 238), some (.long l_1), none, some (.long ((Int64.ofNat 0))), none, some (.int (vz ((sc 1) - 1)))]) (And.intro rfl (And.intro rfl (And.intro rfl (And.intro rfl trivial)))) (((r79_L (sc := sc) (ai := ai) (al := al) (az := az) (v0 := v0) (vh := vh) (l_1 := l_1) (nv := nv) (Nk := Nk) hM hK hv hV hl1 hNk _)) ((Int64.ofNat 0)) ((sc 1) - 1) (by omega) (by rw [show (sc 1 - 1 + 1).toNat = nv by omega, Nat.div_eq_of_lt hNk]) (Nat.lt_succ_self _))
set_option maxRecDepth 100000 in
set_option maxHeartbeats 4000000 in
theorem r82_L {vh : vm_H} {l_0 : Int64} {l_1 : Int64} (hA : -67108864 ≤ l_0.toInt ∧ l_0.toInt ≤ 67108864) (hB : -67108864 ≤ l_1.toInt ∧ l_1.toInt ≤ 67108864) : ∀ N : Nat, (∀ (y4 : Int64) (y6 : Int64), ((0 ≤ y4.toInt ∧ y4.toInt ≤ 67108864) ∧ (0 ≤ y6.toInt ∧ y6.toInt ≤ 67108864)) → (Nat.gcd y4.toInt.natAbs y6.toInt.natAbs = Nat.gcd l_0.toInt.natAbs l_1.toInt.natAbs) → ((y6.toInt : Int).toNat < N) → vm_Wp 0 0 82 28 [some (.long l_0), none, some (.long l_1), none, some (.long y4), none, some (.long y6), none, none, none] [] vh (vq_P 82 (fun r v1 => vh = v1 ∧ ∃ g : Int64, g.toInt = ((Nat.gcd l_0.toInt.natAbs l_1.toInt.natAbs : Nat) : Int) ∧ r = some (.long g)))) := by
  intro N
  induction N with
  | zero => exact (by intros; omega)
  | succ N ih =>
    ·
      intro y4 y6 hi0 hi1 hN
      refine w_ldL e82_28 (fun _ => rfl) rfl ?_
      refine w_x e82_30 (fun _ => rfl) ?_
      refine w_lcmp e82_31 (fun q25 (h26 : -1 ≤ q25 ∧ q25 ≤ 1) h27 h28 => ?_)
      have hc29 : (q25 = 0 ↔ y6.toInt = ((Int64.ofNat 0)).toInt) ∧ (q25 < 0 ↔ y6.toInt < ((Int64.ofNat 0)).toInt) := lc_i h27 h28
      have hc30 : (Int64.ofNat 0).toInt = 0 := rfl
      refine w_if e82_32 (by omega) (fun (h31 : q25 = 0) => ?_) (fun (h31 : q25 ≠ 0) => ?_)
      ·
        refine w_ldL e82_53 (fun _ => rfl) rfl ?_
        exact w_rl e82_55 rfl ⟨rfl, y4, by rw [← hi1, show y6.toInt = 0 by omega, show (0 : Int).natAbs = 0 from rfl, Nat.gcd_zero_right]; omega, rfl⟩
      ·
        refine w_ldL e82_35 (fun _ => rfl) rfl ?_
        refine w_ldL e82_37 (fun _ => rfl) rfl ?_
        have hrs := cg_s (x := y4) (y := y6) (r := y4 - y4 / y6 * y6) (by omega) (by omega) rfl
        refine w_rem e82_39 (fun hz => by have h9 := congrArg Int64.toInt hz; have h8 : (0 : Int64).toInt = 0 := rfl; omega) ?_
        refine w_stL (j := 8) (A1 := [some (.long l_0), none, some (.long l_1), none, some (.long y4), none, some (.long y6), none, some (.long ((y4 - y4 / y6 * y6))), none]) e82_40 (fun _ => rfl) (by decide) rfl ?_
        refine w_ldL e82_42 (fun _ => rfl) rfl ?_
        refine w_stL (j := 4) (A1 := [some (.long l_0), none, some (.long l_1), none, some (.long y6), none, some (.long y6), none, some (.long ((y4 - y4 / y6 * y6))), none]) e82_44 (fun _ => rfl) (by decide) rfl ?_
        refine w_ldL e82_46 (fun _ => rfl) rfl ?_
        refine w_stL (j := 6) (A1 := [some (.long l_0), none, some (.long l_1), none, some (.long y6), none, some (.long ((y4 - y4 / y6 * y6))), none, some (.long ((y4 - y4 / y6 * y6))), none]) e82_48 (fun _ => rfl) (by decide) rfl ?_
        refine w_x e82_50 (fun _ => rfl) ?_
        exact w_sub (A1 := [some (.long l_0), none, some (.long l_1), none, some (.long y6), none, some (.long ((y4 - y4 / y6 * y6))), none, none, none]) (And.intro rfl (And.intro rfl (And.intro rfl (And.intro rfl trivial)))) ((ih) y6 ((y4 - y4 / y6 * y6)) ⟨hi0.2, hrs.1⟩ (hrs.2.2.trans hi1) (by omega))
set_option maxRecDepth 100000 in
set_option maxHeartbeats 4000000 in
theorem r82 {vh : vm_H} {l_0 : Int64} {l_1 : Int64} (hA : -67108864 ≤ l_0.toInt ∧ l_0.toInt ≤ 67108864) (hB : -67108864 ≤ l_1.toInt ∧ l_1.toInt ≤ 67108864) : vm_Rp 0 0 82 [.long l_0, .long l_1] vh (fun r v1 => vh = v1 ∧ ∃ g : Int64, g.toInt = ((Nat.gcd l_0.toInt.natAbs l_1.toInt.natAbs : Nat) : Int) ∧ r = some (.long g)) := by
  refine w_in (m := 6) ?_
  show vm_Wp _ _ _ 0 [some (.long l_0), none, some (.long l_1), none, none, none, none, none, none, none] [] _ _
  refine w_ldL e82_0 (fun _ => rfl) rfl ?_
  refine w_x e82_1 (fun _ => rfl) ?_
  refine w_lcmp e82_2 (fun q1 (h2 : -1 ≤ q1 ∧ q1 ≤ 1) h3 h4 => ?_)
  have hc5 : (q1 = 0 ↔ l_0.toInt = ((Int64.ofNat 0)).toInt) ∧ (q1 < 0 ↔ l_0.toInt < ((Int64.ofNat 0)).toInt) := lc_i h3 h4
  have hc6 : (Int64.ofNat 0).toInt = 0 := rfl
  refine w_if e82_3 (by omega) (fun (h7 : 0 ≤ q1) => ?_) (fun (h7 : q1 < 0) => ?_)
  ·
    refine w_ldL e82_11 (fun _ => rfl) rfl ?_
    refine w_stL (j := 4) (A1 := [some (.long l_0), none, some (.long l_1), none, some (.long l_0), none, none, none, none, none]) e82_12 (fun _ => rfl) (by decide) rfl ?_
    refine w_ldL e82_14 (fun _ => rfl) rfl ?_
    refine w_x e82_15 (fun _ => rfl) ?_
    refine w_lcmp e82_16 (fun q8 (h9 : -1 ≤ q8 ∧ q8 ≤ 1) h10 h11 => ?_)
    have hc12 : (q8 = 0 ↔ l_1.toInt = ((Int64.ofNat 0)).toInt) ∧ (q8 < 0 ↔ l_1.toInt < ((Int64.ofNat 0)).toInt) := lc_i h10 h11
    have hc13 : (Int64.ofNat 0).toInt = 0 := rfl
    refine w_if e82_17 (by omega) (fun (h14 : 0 ≤ q8) => ?_) (fun (h14 : q8 < 0) => ?_)
    ·
      refine w_ldL e82_25 (fun _ => rfl) rfl ?_
      refine w_stL (j := 6) (A1 := [some (.long l_0), none, some (.long l_1), none, some (.long l_0), none, some (.long l_1), none, none, none]) e82_26 (fun _ => rfl) (by decide) rfl ?_
      exact w_sub (A1 := [some (.long l_0), none, some (.long l_1), none, some (.long l_0), none, some (.long l_1), none, none, none]) (And.intro rfl (And.intro rfl (And.intro rfl (And.intro rfl trivial)))) (((r82_L (vh := vh) (l_0 := l_0) (l_1 := l_1) hA hB _)) l_0 l_1 (by omega) (by congr 1 <;> omega) (Nat.lt_succ_self _))
    ·
      refine w_ldL e82_20 (fun _ => rfl) rfl ?_
      refine w_x e82_21 (fun _ => rfl) ?_
      have hc15 := l_neg (x := l_1) (by omega)
      refine w_x e82_22 (fun _ => rfl) ?_
      refine w_stL (j := 6) (A1 := [some (.long l_0), none, some (.long l_1), none, some (.long l_0), none, some (.long ((-l_1))), none, none, none]) e82_26 (fun _ => rfl) (by decide) rfl ?_
      exact w_sub (A1 := [some (.long l_0), none, some (.long l_1), none, some (.long l_0), none, some (.long ((-l_1))), none, none, none]) (And.intro rfl (And.intro rfl (And.intro rfl (And.intro rfl trivial)))) (((r82_L (vh := vh) (l_0 := l_0) (l_1 := l_1) hA hB _)) l_0 ((-l_1)) (by omega) (by congr 1 <;> omega) (Nat.lt_succ_self _))
  ·
    refine w_ldL e82_6 (fun _ => rfl) rfl ?_
    refine w_x e82_7 (fun _ => rfl) ?_
    have hc16 := l_neg (x := l_0) (by omega)
    refine w_x e82_8 (fun _ => rfl) ?_
    refine w_stL (j := 4) (A1 := [some (.long l_0), none, some (.long l_1), none, some (.long ((-l_0))), none, none, none, none, none]) e82_12 (fun _ => rfl) (by decide) rfl ?_
    refine w_ldL e82_14 (fun _ => rfl) rfl ?_
    refine w_x e82_15 (fun _ => rfl) ?_
    refine w_lcmp e82_16 (fun q17 (h18 : -1 ≤ q17 ∧ q17 ≤ 1) h19 h20 => ?_)
    have hc21 : (q17 = 0 ↔ l_1.toInt = ((Int64.ofNat 0)).toInt) ∧ (q17 < 0 ↔ l_1.toInt < ((Int64.ofNat 0)).toInt) := lc_i h19 h20
    have hc22 : (Int64.ofNat 0).toInt = 0 := rfl
    refine w_if e82_17 (by omega) (fun (h23 : 0 ≤ q17) => ?_) (fun (h23 : q17 < 0) => ?_)
    ·
      refine w_ldL e82_25 (fun _ => rfl) rfl ?_
      refine w_stL (j := 6) (A1 := [some (.long l_0), none, some (.long l_1), none, some (.long ((-l_0))), none, some (.long l_1), none, none, none]) e82_26 (fun _ => rfl) (by decide) rfl ?_
      exact w_sub (A1 := [some (.long l_0), none, some (.long l_1), none, some (.long ((-l_0))), none, some (.long l_1), none, none, none]) (And.intro rfl (And.intro rfl (And.intro rfl (And.intro rfl trivial)))) (((r82_L (vh := vh) (l_0 := l_0) (l_1 := l_1) hA hB _)) ((-l_0)) l_1 (by omega) (by congr 1 <;> omega) (Nat.lt_succ_self _))
    ·
      refine w_ldL e82_20 (fun _ => rfl) rfl ?_
      refine w_x e82_21 (fun _ => rfl) ?_
      have hc24 := l_neg (x := l_1) (by omega)
      refine w_x e82_22 (fun _ => rfl) ?_
      refine w_stL (j := 6) (A1 := [some (.long l_0), none, some (.long l_1), none, some (.long ((-l_0))), none, some (.long ((-l_1))), none, none, none]) e82_26 (fun _ => rfl) (by decide) rfl ?_
      exact w_sub (A1 := [some (.long l_0), none, some (.long l_1), none, some (.long ((-l_0))), none, some (.long ((-l_1))), none, none, none]) (And.intro rfl (And.intro rfl (And.intro rfl (And.intro rfl trivial)))) (((r82_L (vh := vh) (l_0 := l_0) (l_1 := l_1) hA hB _)) ((-l_0)) ((-l_1)) (by omega) (by congr 1 <;> omega) (Nat.lt_succ_self _))
set_option maxRecDepth 100000 in
set_option maxHeartbeats 4000000 in
theorem r83_L {sc : Nat → Int} {ai : Nat → Nat → Int} {al : Nat → Nat → Int64} {az : Nat → Nat → Int32} {v0 : vm_H} (hK : tmok ai) {i1 : Int} (hi_1 : 0 ≤ i1 ∧ i1 < 72) {V : Nat → Nat} {nv : Nat} {l : Po} (hL : qL V nv ai al (i1).toNat l) (hg : gk nv l) : ∀ N : Nat, (∀ (vh : vm_H) (y2 : Int64) (x4 : Int), (tm sc ai al az v0 vh) → (0 ≤ x4 ∧ x4 ≤ ai 242 (i1).toNat) → (y2.toInt = (gck (fun t => al 243 (60 * (i1).toNat + t)) (x4).toNat : Int)) → ((200 - x4 : Int).toNat < N) → vm_Wp 1 29 83 5 [some (.ref 238), some (.int (vz i1)), some (.long y2), none, some (.int (vz x4))] [] vh (vq_P 83 (fun r v1 => (∃ al1 : Nat → Nat → Int64, prR V nv ai al al1 (i1).toNat (prP l) ∧ tm sc ai al1 az v0 v1) ∧ r = none))) ∧ (∀ (vh : vm_H) (al_ : Nat → Nat → Int64) (y2 : Int64) (x4 : Int), (tm sc ai al_ az v0 vh) → (0 ≤ x4 ∧ x4 ≤ ai 242 (i1).toNat) → (l ≠ [] → y2.toInt = sgP l) → (prI al al_ (i1).toNat y2 x4) → (0 < ai 242 (i1).toNat → y2.toInt ≠ 0) → ((60 - x4 : Int).toNat < N) → vm_Wp 1 29 83 68 [some (.ref 238), some (.int (vz i1)), some (.long y2), none, some (.int (vz x4))] [] vh (vq_P 83 (fun r v1 => (∃ al1 : Nat → Nat → Int64, prR V nv ai al al1 (i1).toNat (prP l) ∧ tm sc ai al1 az v0 v1) ∧ r = none))) := by
  have hl1 := hL.1
  have hcg := hK.1 (i1).toNat
  have hgl := qL_gl hL hg
  intro N
  induction N with
  | zero => exact ⟨by intros; omega, by intros; omega⟩
  | succ N ih =>
    refine ⟨?_, ?_⟩
    ·
      intro vh y2 x4 hM hx4 hi0 hN
      have hgb := gck_bd (F := (fun t => al 243 (60 * (i1).toNat + t))) (x4).toNat (fun t ht => hgl t (by omega))
      refine w_ldI e83_5 (fun _ => rfl) rfl ?_
      refine w_ldA e83_7 (fun _ => rfl) rfl ?_
      have e1 := tm_o hM
      refine w_get e83_8 e1 rfl ?_
      refine w_ldI e83_11 (fun _ => rfl) rfl ?_
      have e2 := tm_i hM (a := 242) (n := 72) rfl
      refine w_ald e83_12 e2 (by omega) (by omega) (by decide) ?_
      show vm_Wp _ _ _ 13 _ [.int (vz (ai 242 (i1).toNat)), .int (vz x4)] _ _
      have hk3 := hK.1 (i1).toNat
      refine w_ic e83_13 (by omega) (tm_r hM 242 (i1).toNat) (fun (h4 : ai 242 (i1).toNat ≤ x4) => ?_) (fun (h4 : x4 < ai 242 (i1).toNat) => ?_)
      ·
        have hx4e : x4 = ai 242 (i1).toNat := by omega
        rw [hx4e, show (ai 242 (i1).toNat).toNat = l.length by omega] at hi0 hgb
        have hgb1 := hgb.1
        have hgb2 := hgb.2
        refine w_ldA e83_39 (fun _ => rfl) rfl ?_
        refine w_get e83_40 e1 rfl ?_
        refine w_ldI e83_43 (fun _ => rfl) rfl ?_
        refine w_ald e83_44 e2 (by omega) (by omega) (by decide) ?_
        show vm_Wp _ _ _ 45 _ [.int (vz (ai 242 (i1).toNat))] _ _
        have hk5 := hK.1 (i1).toNat
        refine w_if e83_45 (tm_r hM 242 (i1).toNat) (fun (h6 : ai 242 (i1).toNat ≤ 0) => ?_) (fun (h6 : 0 < ai 242 (i1).toNat) => ?_)
        ·
          refine w_kI e83_65 ?_
          refine w_stI (j := 4) (A1 := [some (.ref 238), some (.int (vz i1)), some (.long y2), none, some (.int (vz 0))]) e83_66 (fun _ => rfl) (by decide) rfl ?_
          exact w_sub (A1 := [some (.ref 238), some (.int (vz i1)), some (.long y2), none, some (.int (vz 0))]) (And.intro rfl (And.intro rfl (And.intro rfl (And.intro rfl trivial)))) ((ih.2) vh al y2 0 hM (by omega) (fun h9 => absurd (List.eq_nil_of_length_eq_zero (by omega)) h9) prI_0 (by omega) (by omega))
        ·
          refine w_ldA e83_48 (fun _ => rfl) rfl ?_
          refine w_get e83_49 e1 rfl ?_
          refine w_kB e83_52 rfl ?_
          refine w_ldI e83_54 (fun _ => rfl) rfl ?_
          refine w_imul e83_55 ?_
          have e7 := tm_l hM (a := 243) (n := 4320) rfl
          refine w_lld e83_56 e7 (by omega) (by omega) (by decide) ?_
          refine w_x e83_57 (fun _ => rfl) ?_
          refine w_lcmp e83_58 (fun q8 (h9 : -1 ≤ q8 ∧ q8 ≤ 1) h10 h11 => ?_)
          have hc12 : (q8 = 0 ↔ ((al 243 (60 * i1).toNat)).toInt = ((Int64.ofNat 0)).toInt) ∧ (q8 < 0 ↔ ((al 243 (60 * i1).toNat)).toInt < ((Int64.ofNat 0)).toInt) := lc_i h10 h11
          have hc13 : (Int64.ofNat 0).toInt = 0 := rfl
          refine w_if e83_59 (by omega) (fun (h14 : 0 ≤ q8) => ?_) (fun (h14 : q8 < 0) => ?_)
          ·
            refine w_kI e83_65 ?_
            refine w_stI (j := 4) (A1 := [some (.ref 238), some (.int (vz i1)), some (.long y2), none, some (.int (vz 0))]) e83_66 (fun _ => rfl) (by decide) rfl ?_
            exact w_sub (A1 := [some (.ref 238), some (.int (vz i1)), some (.long y2), none, some (.int (vz 0))]) (And.intro rfl (And.intro rfl (And.intro rfl (And.intro rfl trivial)))) ((ih.2) vh al y2 0 hM (by omega) (fun h9 => pr_sy hL hg h9 (pr_i0 hi_1.1) hi0 (by omega)) prI_0 (by omega) (by omega))
          ·
            refine w_ldL e83_62 (fun _ => rfl) rfl ?_
            refine w_x e83_63 (fun _ => rfl) ?_
            have hng := ngi (y := y2) (by omega)
            refine w_stL (j := 2) (A1 := [some (.ref 238), some (.int (vz i1)), some (.long ((-y2))), none, some (.int (vz x4))]) e83_64 (fun _ => rfl) (by decide) rfl ?_
            refine w_kI e83_65 ?_
            refine w_stI (j := 4) (A1 := [some (.ref 238), some (.int (vz i1)), some (.long ((-y2))), none, some (.int (vz 0))]) e83_66 (fun _ => rfl) (by decide) rfl ?_
            exact w_sub (A1 := [some (.ref 238), some (.int (vz i1)), some (.long ((-y2))), none, some (.int (vz 0))]) (And.intro rfl (And.intro rfl (And.intro rfl (And.intro rfl trivial)))) ((ih.2) vh al ((-y2)) 0 hM (by omega) (fun h9 => pr_sy hL hg h9 (pr_i0 hi_1.1) hi0 (by omega)) prI_0 (by omega) (by omega))
      ·
        refine w_ldL e83_16 (fun _ => rfl) rfl ?_
        refine w_ldA e83_17 (fun _ => rfl) rfl ?_
        refine w_get e83_18 e1 rfl ?_
        refine w_kB e83_21 rfl ?_
        refine w_ldI e83_23 (fun _ => rfl) rfl ?_
        refine w_imul e83_24 ?_
        refine w_ldI e83_25 (fun _ => rfl) rfl ?_
        refine w_iadd e83_27 ?_
        have e15 := tm_l hM (a := 243) (n := 4320) rfl
        refine w_lld e83_28 e15 (by omega) (by omega) (by decide) ?_
        refine w_cs e83_29 (by decide) (Nat.le_of_ble_eq_true rfl) (Nat.le_of_ble_eq_true rfl) (Nat.le_of_ble_eq_true rfl) (by decide) (by decide) (r82 (by omega) (pr_b hgl hi_1.1 hx4.1 (by omega))) (fun o16 v17 hq18 => ?_)
        obtain ⟨rfl, g19, hg20, rfl⟩ := hq18
        refine w_stL (j := 2) (A1 := [some (.ref 238), some (.int (vz i1)), some (.long g19), none, some (.int (vz x4))]) e83_32 (fun _ => rfl) (by decide) rfl ?_
        refine w_iinc (A1 := [some (.ref 238), some (.int (vz i1)), some (.long g19), none, some (.int (vz (x4 + 1)))]) e83_33 rfl (by decide) rfl ?_
        refine w_x e83_36 (fun _ => rfl) ?_
        exact w_sub (A1 := [some (.ref 238), some (.int (vz i1)), some (.long g19), none, some (.int (vz (x4 + 1)))]) (And.intro rfl (And.intro rfl (And.intro rfl (And.intro rfl trivial)))) ((ih.1) vh g19 (x4 + 1) hM (by omega) (gk_s hx4.1 hi0 (by rw [← pr_ix hi_1.1 hx4.1]) hg20) (by omega))
    ·
      intro vh al_ y2 x4 hM hx4 hi0 hi1 hi2 hN
      refine w_ldI e83_68 (fun _ => rfl) rfl ?_
      refine w_ldA e83_70 (fun _ => rfl) rfl ?_
      have e21 := tm_o hM
      refine w_get e83_71 e21 rfl ?_
      refine w_ldI e83_74 (fun _ => rfl) rfl ?_
      have e22 := tm_i hM (a := 242) (n := 72) rfl
      refine w_ald e83_75 e22 (by omega) (by omega) (by decide) ?_
      show vm_Wp _ _ _ 76 _ [.int (vz (ai 242 (i1).toNat)), .int (vz x4)] _ _
      have hk23 := hK.1 (i1).toNat
      refine w_ic e83_76 (by omega) (tm_r hM 242 (i1).toNat) (fun (h24 : ai 242 (i1).toNat ≤ x4) => ?_) (fun (h24 : x4 < ai 242 (i1).toNat) => ?_)
      ·
        exact w_rv e83_111 rfl ⟨⟨al_, prR_e hi1 hL (by omega) (by omega) hi0, hM⟩, rfl⟩
      ·
        refine w_ldA e83_79 (fun _ => rfl) rfl ?_
        refine w_get e83_80 e21 rfl ?_
        refine w_kB e83_83 rfl ?_
        refine w_ldI e83_85 (fun _ => rfl) rfl ?_
        refine w_imul e83_86 ?_
        refine w_ldI e83_87 (fun _ => rfl) rfl ?_
        refine w_iadd e83_89 ?_
        refine w_ldA e83_90 (fun _ => rfl) rfl ?_
        refine w_get e83_91 e21 rfl ?_
        refine w_kB e83_94 rfl ?_
        refine w_ldI e83_96 (fun _ => rfl) rfl ?_
        refine w_imul e83_97 ?_
        refine w_ldI e83_98 (fun _ => rfl) rfl ?_
        refine w_iadd e83_100 ?_
        have e25 := tm_l hM (a := 243) (n := 4320) rfl
        refine w_lld e83_101 e25 (by omega) (by omega) (by decide) ?_
        refine w_ldL e83_102 (fun _ => rfl) rfl ?_
        refine w_div e83_103 (fun e9 => by have h9 := congrArg Int64.toInt e9; have h8 : (0 : Int64).toInt = 0 := rfl; omega) ?_
        refine w_lst e83_104 e25 (by omega) (by omega) (by decide) (fun v28 b26 h27 => ?_)
        obtain ⟨al29, hd31, hM30⟩ : ∃ z, z = u2 al_ 243 ((60 * i1) + x4).toNat (((al_ 243 ((60 * i1) + x4).toNat) / y2)) ∧ tm sc ai z az v0 v28 := ⟨_, rfl, tm_pl hM rfl b26 h27⟩
        refine w_iinc (A1 := [some (.ref 238), some (.int (vz i1)), some (.long y2), none, some (.int (vz (x4 + 1)))]) e83_105 rfl (by decide) rfl ?_
        refine w_x e83_108 (fun _ => rfl) ?_
        exact w_sub (A1 := [some (.ref 238), some (.int (vz i1)), some (.long y2), none, some (.int (vz (x4 + 1)))]) (And.intro rfl (And.intro rfl (And.intro rfl (And.intro rfl trivial)))) ((ih.2) v28 al29 y2 (x4 + 1) hM30 (by omega) hi0 (prI_s hi1 (by omega) (pr_ix hi_1.1 (by omega)) rfl hd31) hi2 (by omega))
set_option maxRecDepth 100000 in
set_option maxHeartbeats 4000000 in
theorem r83 {sc : Nat → Int} {ai : Nat → Nat → Int} {al : Nat → Nat → Int64} {az : Nat → Nat → Int32} {v0 vh : vm_H} (hM : tm sc ai al az v0 vh) (hK : tmok ai) {i1 : Int} (hi_1 : 0 ≤ i1 ∧ i1 < 72) {V : Nat → Nat} {nv : Nat} {l : Po} (hL : qL V nv ai al (i1).toNat l) (hg : gk nv l) : vm_Rp 1 29 83 [.ref 238, .int (vz i1)] vh (fun r v1 => (∃ al1 : Nat → Nat → Int64, prR V nv ai al al1 (i1).toNat (prP l) ∧ tm sc ai al1 az v0 v1) ∧ r = none) := by
  have hl1 := hL.1
  have hcg := hK.1 (i1).toNat
  have hgl := qL_gl hL hg
  refine w_in (m := 3) ?_
  show vm_Wp _ _ _ 0 [some (.ref 238), some (.int (vz i1)), none, none, none] [] _ _
  refine w_x e83_0 (fun _ => rfl) ?_
  refine w_stL (j := 2) (A1 := [some (.ref 238), some (.int (vz i1)), some (.long ((Int64.ofNat 0))), none, none]) e83_1 (fun _ => rfl) (by decide) rfl ?_
  refine w_kI e83_2 ?_
  refine w_stI (j := 4) (A1 := [some (.ref 238), some (.int (vz i1)), some (.long ((Int64.ofNat 0))), none, some (.int (vz 0))]) e83_3 (fun _ => rfl) (by decide) rfl ?_
  exact w_sub (A1 := [some (.ref 238), some (.int (vz i1)), some (.long ((Int64.ofNat 0))), none, some (.int (vz 0))]) (And.intro rfl (And.intro rfl (And.intro rfl (And.intro rfl trivial)))) (((r83_L (sc := sc) (ai := ai) (al := al) (az := az) (v0 := v0) (i1 := i1) (V := V) (nv := nv) (l := l) hK hi_1 hL hg _).1) vh ((Int64.ofNat 0)) 0 hM (by omega) rfl (Nat.lt_succ_self _))
set_option maxRecDepth 100000 in
set_option maxHeartbeats 4000000 in
theorem r89_L {vh : vm_H} {l_0 : Int64} : ∀ N : Nat, (∀ (x2 : Int) (x3 : Int), (0 ≤ x2 ∧ x2 ≤ 1) → (0 ≤ x3 ∧ x3 ≤ 8) → (x2 = 1 ↔ (∀ v : Nat, (v : Int) < x3 → pw l_0 (v : Int) ≤ 15)) → ((8 - x3 : Int).toNat < N) → vm_Wp 1 22 89 4 [some (.long l_0), none, some (.int (vz x2)), some (.int (vz x3))] [] vh (vq_P 89 (fun r v1 => vh = v1 ∧ ∃ q : Int, ((0 ≤ q ∧ q ≤ 1) ∧ (q = 1 ↔ (∀ v : Nat, (v : Int) < 8 → pw l_0 (v : Int) ≤ 15))) ∧ r = some (.int (vz q))))) := by
  intro N
  induction N with
  | zero => exact (by intros; omega)
  | succ N ih =>
    ·
      intro x2 x3 hx2 hx3 hi0 hN
      refine w_ldI e89_4 (fun _ => rfl) rfl ?_
      refine w_kB e89_5 rfl ?_
      refine w_ic e89_7 (by omega) (by omega) (fun (h1 : 8 ≤ x3) => ?_) (fun (h1 : x3 < 8) => ?_)
      ·
        refine w_ldI e89_34 (fun _ => rfl) rfl ?_
        exact w_rz e89_35 rfl (by omega) ⟨rfl, x2, ⟨by omega, by rw [show x3 = 8 by omega] at hi0; exact hi0⟩, rfl⟩
      ·
        refine w_ldI e89_10 (fun _ => rfl) rfl ?_
        refine w_ldL e89_11 (fun _ => rfl) rfl ?_
        refine w_ldI e89_12 (fun _ => rfl) rfl ?_
        refine w_cs e89_13 (by decide) (Nat.le_of_ble_eq_true rfl) (Nat.le_of_ble_eq_true rfl) (Nat.le_of_ble_eq_true rfl) (by decide) (by decide) (c78 (by omega)) (fun o2 v3 hq4 => ?_)
        obtain ⟨rfl, rfl⟩ := hq4
        have hp5 := pw_bd l_0 x3
        refine w_kB e89_16 rfl ?_
        refine w_ic e89_18 (by omega) (by omega) (fun (h6 : 15 < pw l_0 x3) => ?_) (fun (h6 : pw l_0 x3 ≤ 15) => ?_)
        ·
          refine w_kI e89_25 ?_
          refine w_x e89_26 (fun _ => rfl) ?_
          show vm_Wp _ _ _ 27 _ [.int (vz x2 &&& vz 0)] _ _
          rw [and0 (by omega)]
          refine w_stI (j := 2) (A1 := [some (.long l_0), none, some (.int (vz 0)), some (.int (vz x3))]) e89_27 (fun _ => rfl) (by decide) rfl ?_
          refine w_iinc (A1 := [some (.long l_0), none, some (.int (vz 0)), some (.int (vz (x3 + 1)))]) e89_28 rfl (by decide) rfl ?_
          refine w_x e89_31 (fun _ => rfl) ?_
          exact w_sub (A1 := [some (.long l_0), none, some (.int (vz 0)), some (.int (vz (x3 + 1)))]) (And.intro rfl (And.intro rfl (And.intro rfl trivial))) ((ih) 0 (x3 + 1) (by omega) (by omega) ⟨fun h9 => absurd h9 (by decide), fun h9 => by have h8 := h9 (x3).toNat (by omega); rw [show (((x3).toNat : Nat) : Int) = x3 by omega] at h8; omega⟩ (by omega))
        ·
          refine w_kI e89_21 ?_
          refine w_x e89_22 (fun _ => rfl) ?_
          refine w_x e89_26 (fun _ => rfl) ?_
          show vm_Wp _ _ _ 27 _ [.int (vz x2 &&& vz 1)] _ _
          rw [and1 (by omega)]
          refine w_stI (j := 2) (A1 := [some (.long l_0), none, some (.int (vz x2)), some (.int (vz x3))]) e89_27 (fun _ => rfl) (by decide) rfl ?_
          refine w_iinc (A1 := [some (.long l_0), none, some (.int (vz x2)), some (.int (vz (x3 + 1)))]) e89_28 rfl (by decide) rfl ?_
          refine w_x e89_31 (fun _ => rfl) ?_
          exact w_sub (A1 := [some (.long l_0), none, some (.int (vz x2)), some (.int (vz (x3 + 1)))]) (And.intro rfl (And.intro rfl (And.intro rfl trivial))) ((ih) x2 (x3 + 1) (by omega) (by omega) ⟨fun h9 v hv => by by_cases h8 : (v : Int) < x3; exact hi0.mp h9 v h8; rw [show (v : Int) = x3 by omega]; omega, fun h9 => hi0.mpr fun v hv => h9 v (by omega)⟩ (by omega))
set_option maxRecDepth 100000 in
set_option maxHeartbeats 4000000 in
theorem r89 {vh : vm_H} {l_0 : Int64} : vm_Rp 1 22 89 [.long l_0] vh (fun r v1 => vh = v1 ∧ ∃ q : Int, ((0 ≤ q ∧ q ≤ 1) ∧ (q = 1 ↔ (∀ v : Nat, (v : Int) < 8 → pw l_0 (v : Int) ≤ 15))) ∧ r = some (.int (vz q))) := by
  refine w_in (m := 2) ?_
  show vm_Wp _ _ _ 0 [some (.long l_0), none, none, none] [] _ _
  refine w_kI e89_0 ?_
  refine w_stI (j := 2) (A1 := [some (.long l_0), none, some (.int (vz 1)), none]) e89_1 (fun _ => rfl) (by decide) rfl ?_
  refine w_kI e89_2 ?_
  refine w_stI (j := 3) (A1 := [some (.long l_0), none, some (.int (vz 1)), some (.int (vz 0))]) e89_3 (fun _ => rfl) (by decide) rfl ?_
  exact w_sub (A1 := [some (.long l_0), none, some (.int (vz 1)), some (.int (vz 0))]) (And.intro rfl (And.intro rfl (And.intro rfl trivial))) (((r89_L (vh := vh) (l_0 := l_0)  _)) 1 0 (by omega) (by omega) ⟨fun _ v hv => by omega, fun _ => rfl⟩ (Nat.lt_succ_self _))
set_option maxRecDepth 100000 in
set_option maxHeartbeats 4000000 in
theorem r84_L {sc : Nat → Int} {ai : Nat → Nat → Int} {al : Nat → Nat → Int64} {az : Nat → Nat → Int32} {v0 vh : vm_H} (hM : tm sc ai al az v0 vh) (hK : tmok ai) {i1 : Int} (hi_1 : 0 ≤ i1 ∧ i1 < 72) {i2 : Int} (hi_2 : 0 ≤ i2 ∧ i2 < 72) : ∀ N : Nat, (∀ (x3 : Int) (x4 : Int), (0 ≤ x3 ∧ x3 ≤ 1) → (0 ≤ x4 ∧ x4 ≤ ai 242 (i1).toNat) → (x3 = 1 ↔ (ai 242 (i1).toNat = ai 242 (i2).toNat ∧ ∀ t : Nat, (t : Int) < x4 → al 243 (60 * (i1).toNat + t) = al 243 (60 * (i2).toNat + t) ∧ al 244 (60 * (i1).toNat + t) = al 244 (60 * (i2).toNat + t))) → ((60 - x4 : Int).toNat < N) → vm_Wp 0 0 84 24 [some (.ref 238), some (.int (vz i1)), some (.int (vz i2)), some (.int (vz x3)), some (.int (vz x4))] [] vh (vq_P 84 (fun r v1 => vh = v1 ∧ ∃ q : Int, ((0 ≤ q ∧ q ≤ 1) ∧ (q = 1 ↔ (ai 242 (i1).toNat = ai 242 (i2).toNat ∧ ∀ t : Nat, (t : Int) < ai 242 (i1).toNat → al 243 (60 * (i1).toNat + t) = al 243 (60 * (i2).toNat + t) ∧ al 244 (60 * (i1).toNat + t) = al 244 (60 * (i2).toNat + t)))) ∧ r = some (.int (vz q))))) := by
  have hc1 := hK.1 (i1).toNat
  have hc2 := hK.1 (i2).toNat
  intro N
  induction N with
  | zero => exact (by intros; omega)
  | succ N ih =>
    ·
      intro x3 x4 hx3 hx4 hi0 hN
      refine w_ldI e84_24 (fun _ => rfl) rfl ?_
      refine w_ldA e84_26 (fun _ => rfl) rfl ?_
      have e6 := tm_o hM
      refine w_get e84_27 e6 rfl ?_
      refine w_ldI e84_30 (fun _ => rfl) rfl ?_
      have e7 := tm_i hM (a := 242) (n := 72) rfl
      refine w_ald e84_31 e7 (by omega) (by omega) (by decide) ?_
      show vm_Wp _ _ _ 32 _ [.int (vz (ai 242 (i1).toNat)), .int (vz x4)] _ _
      have hk8 := hK.1 (i1).toNat
      refine w_ic e84_32 (by omega) (tm_r hM 242 (i1).toNat) (fun (h9 : ai 242 (i1).toNat ≤ x4) => ?_) (fun (h9 : x4 < ai 242 (i1).toNat) => ?_)
      ·
        refine w_ldI e84_107 (fun _ => rfl) rfl ?_
        exact w_rz e84_108 rfl (by omega) ⟨rfl, x3, ⟨by omega, ⟨fun h9 => ⟨(hi0.mp h9).1, fun t ht => (hi0.mp h9).2 t (by omega)⟩, fun h9 => hi0.mpr ⟨h9.1, fun t ht => h9.2 t (by omega)⟩⟩⟩, rfl⟩
      ·
        refine w_ldI e84_35 (fun _ => rfl) rfl ?_
        refine w_if e84_36 (by omega) (fun (h10 : x3 = 0) => ?_) (fun (h10 : x3 ≠ 0) => ?_)
        ·
          refine w_ldI e84_107 (fun _ => rfl) rfl ?_
          exact w_rz e84_108 rfl (by omega) ⟨rfl, x3, ⟨by omega, ⟨fun h9 => ⟨(hi0.mp h9).1, fun t ht => (hi0.mp h9).2 t (by omega)⟩, fun h9 => hi0.mpr ⟨h9.1, fun t ht => h9.2 t (by omega)⟩⟩⟩, rfl⟩
        ·
          refine w_ldA e84_39 (fun _ => rfl) rfl ?_
          refine w_get e84_40 e6 rfl ?_
          refine w_kB e84_43 rfl ?_
          refine w_ldI e84_45 (fun _ => rfl) rfl ?_
          refine w_imul e84_46 ?_
          refine w_ldI e84_47 (fun _ => rfl) rfl ?_
          refine w_iadd e84_49 ?_
          have e11 := tm_l hM (a := 243) (n := 4320) rfl
          refine w_lld e84_50 e11 (by omega) (by omega) (by decide) ?_
          refine w_ldA e84_51 (fun _ => rfl) rfl ?_
          refine w_get e84_52 e6 rfl ?_
          refine w_kB e84_55 rfl ?_
          refine w_ldI e84_57 (fun _ => rfl) rfl ?_
          refine w_imul e84_58 ?_
          refine w_ldI e84_59 (fun _ => rfl) rfl ?_
          refine w_iadd e84_61 ?_
          refine w_lld e84_62 e11 (by omega) (by omega) (by decide) ?_
          refine w_lcmp e84_63 (fun q12 (h13 : -1 ≤ q12 ∧ q12 ≤ 1) h14 h15 => ?_)
          refine w_if e84_64 (by omega) (fun (h16 : q12 ≠ 0) => ?_) (fun (h16 : q12 = 0) => ?_)
          ·
            refine w_kI e84_99 ?_
            refine w_stI (j := 3) (A1 := [some (.ref 238), some (.int (vz i1)), some (.int (vz i2)), some (.int (vz 0)), some (.int (vz x4))]) e84_100 (fun _ => rfl) (by decide) rfl ?_
            refine w_iinc (A1 := [some (.ref 238), some (.int (vz i1)), some (.int (vz i2)), some (.int (vz 0)), some (.int (vz (x4 + 1)))]) e84_101 rfl (by decide) rfl ?_
            refine w_x e84_104 (fun _ => rfl) ?_
            exact w_sub (A1 := [some (.ref 238), some (.int (vz i1)), some (.int (vz i2)), some (.int (vz 0)), some (.int (vz (x4 + 1)))]) (And.intro rfl (And.intro rfl (And.intro rfl (And.intro rfl (And.intro rfl trivial))))) ((ih) 0 (x4 + 1) (by omega) (by omega) ⟨fun h9 => absurd h9 (by decide), fun h9 => absurd (sm_y hi_1.1 hi_2.1 hx4.1 (h9.2 (x4).toNat (by omega)).1) (fun e9 => absurd (h14.mpr e9) (by omega))⟩ (by omega))
          ·
            refine w_ldA e84_67 (fun _ => rfl) rfl ?_
            refine w_get e84_68 e6 rfl ?_
            refine w_kB e84_71 rfl ?_
            refine w_ldI e84_73 (fun _ => rfl) rfl ?_
            refine w_imul e84_74 ?_
            refine w_ldI e84_75 (fun _ => rfl) rfl ?_
            refine w_iadd e84_77 ?_
            have e17 := tm_l hM (a := 244) (n := 4320) rfl
            refine w_lld e84_78 e17 (by omega) (by omega) (by decide) ?_
            refine w_ldA e84_79 (fun _ => rfl) rfl ?_
            refine w_get e84_80 e6 rfl ?_
            refine w_kB e84_83 rfl ?_
            refine w_ldI e84_85 (fun _ => rfl) rfl ?_
            refine w_imul e84_86 ?_
            refine w_ldI e84_87 (fun _ => rfl) rfl ?_
            refine w_iadd e84_89 ?_
            refine w_lld e84_90 e17 (by omega) (by omega) (by decide) ?_
            refine w_lcmp e84_91 (fun q18 (h19 : -1 ≤ q18 ∧ q18 ≤ 1) h20 h21 => ?_)
            refine w_if e84_92 (by omega) (fun (h22 : q18 ≠ 0) => ?_) (fun (h22 : q18 = 0) => ?_)
            ·
              refine w_kI e84_99 ?_
              refine w_stI (j := 3) (A1 := [some (.ref 238), some (.int (vz i1)), some (.int (vz i2)), some (.int (vz 0)), some (.int (vz x4))]) e84_100 (fun _ => rfl) (by decide) rfl ?_
              refine w_iinc (A1 := [some (.ref 238), some (.int (vz i1)), some (.int (vz i2)), some (.int (vz 0)), some (.int (vz (x4 + 1)))]) e84_101 rfl (by decide) rfl ?_
              refine w_x e84_104 (fun _ => rfl) ?_
              exact w_sub (A1 := [some (.ref 238), some (.int (vz i1)), some (.int (vz i2)), some (.int (vz 0)), some (.int (vz (x4 + 1)))]) (And.intro rfl (And.intro rfl (And.intro rfl (And.intro rfl (And.intro rfl trivial))))) ((ih) 0 (x4 + 1) (by omega) (by omega) ⟨fun h9 => absurd h9 (by decide), fun h9 => absurd (sm_y hi_1.1 hi_2.1 hx4.1 (h9.2 (x4).toNat (by omega)).2) (fun e9 => absurd (h20.mpr e9) (by omega))⟩ (by omega))
            ·
              refine w_kI e84_95 ?_
              refine w_x e84_96 (fun _ => rfl) ?_
              refine w_stI (j := 3) (A1 := [some (.ref 238), some (.int (vz i1)), some (.int (vz i2)), some (.int (vz 1)), some (.int (vz x4))]) e84_100 (fun _ => rfl) (by decide) rfl ?_
              refine w_iinc (A1 := [some (.ref 238), some (.int (vz i1)), some (.int (vz i2)), some (.int (vz 1)), some (.int (vz (x4 + 1)))]) e84_101 rfl (by decide) rfl ?_
              refine w_x e84_104 (fun _ => rfl) ?_
              exact w_sub (A1 := [some (.ref 238), some (.int (vz i1)), some (.int (vz i2)), some (.int (vz 1)), some (.int (vz (x4 + 1)))]) (And.intro rfl (And.intro rfl (And.intro rfl (And.intro rfl (And.intro rfl trivial))))) ((ih) 1 (x4 + 1) (by omega) (by omega) ⟨fun _ => ⟨(hi0.mp (by omega)).1, fun t ht => by by_cases h8 : (t : Int) < x4; exact (hi0.mp (by omega)).2 t h8; rw [show t = (x4).toNat by omega]; exact ⟨sm_x hi_1.1 hi_2.1 hx4.1 (h14.mp (by omega)), sm_x hi_1.1 hi_2.1 hx4.1 (h20.mp (by omega))⟩⟩, fun _ => by omega⟩ (by omega))
set_option maxRecDepth 100000 in
set_option maxHeartbeats 4000000 in
theorem r84 {sc : Nat → Int} {ai : Nat → Nat → Int} {al : Nat → Nat → Int64} {az : Nat → Nat → Int32} {v0 vh : vm_H} (hM : tm sc ai al az v0 vh) (hK : tmok ai) {i1 : Int} (hi_1 : 0 ≤ i1 ∧ i1 < 72) {i2 : Int} (hi_2 : 0 ≤ i2 ∧ i2 < 72) : vm_Rp 0 0 84 [.ref 238, .int (vz i1), .int (vz i2)] vh (fun r v1 => vh = v1 ∧ ∃ q : Int, ((0 ≤ q ∧ q ≤ 1) ∧ (q = 1 ↔ (ai 242 (i1).toNat = ai 242 (i2).toNat ∧ ∀ t : Nat, (t : Int) < ai 242 (i1).toNat → al 243 (60 * (i1).toNat + t) = al 243 (60 * (i2).toNat + t) ∧ al 244 (60 * (i1).toNat + t) = al 244 (60 * (i2).toNat + t)))) ∧ r = some (.int (vz q))) := by
  have hc1 := hK.1 (i1).toNat
  have hc2 := hK.1 (i2).toNat
  refine w_in (m := 2) ?_
  show vm_Wp _ _ _ 0 [some (.ref 238), some (.int (vz i1)), some (.int (vz i2)), none, none] [] _ _
  refine w_ldA e84_0 (fun _ => rfl) rfl ?_
  have e1 := tm_o hM
  refine w_get e84_1 e1 rfl ?_
  refine w_ldI e84_4 (fun _ => rfl) rfl ?_
  have e2 := tm_i hM (a := 242) (n := 72) rfl
  refine w_ald e84_5 e2 (by omega) (by omega) (by decide) ?_
  show vm_Wp _ _ _ 6 _ [.int (vz (ai 242 (i1).toNat))] _ _
  have hk3 := hK.1 (i1).toNat
  refine w_ldA e84_6 (fun _ => rfl) rfl ?_
  refine w_get e84_7 e1 rfl ?_
  refine w_ldI e84_10 (fun _ => rfl) rfl ?_
  refine w_ald e84_11 e2 (by omega) (by omega) (by decide) ?_
  show vm_Wp _ _ _ 12 _ [.int (vz (ai 242 (i2).toNat)), .int (vz (ai 242 (i1).toNat))] _ _
  have hk4 := hK.1 (i2).toNat
  refine w_ic e84_12 (tm_r hM 242 (i1).toNat) (tm_r hM 242 (i2).toNat) (fun (h5 : ai 242 (i1).toNat ≠ ai 242 (i2).toNat) => ?_) (fun (h5 : ai 242 (i1).toNat = ai 242 (i2).toNat) => ?_)
  ·
    refine w_kI e84_19 ?_
    refine w_stI (j := 3) (A1 := [some (.ref 238), some (.int (vz i1)), some (.int (vz i2)), some (.int (vz 0)), none]) e84_20 (fun _ => rfl) (by decide) rfl ?_
    refine w_kI e84_21 ?_
    refine w_stI (j := 4) (A1 := [some (.ref 238), some (.int (vz i1)), some (.int (vz i2)), some (.int (vz 0)), some (.int (vz 0))]) e84_22 (fun _ => rfl) (by decide) rfl ?_
    exact w_sub (A1 := [some (.ref 238), some (.int (vz i1)), some (.int (vz i2)), some (.int (vz 0)), some (.int (vz 0))]) (And.intro rfl (And.intro rfl (And.intro rfl (And.intro rfl (And.intro rfl trivial))))) (((r84_L (sc := sc) (ai := ai) (al := al) (az := az) (v0 := v0) (vh := vh) (i1 := i1) (i2 := i2) hM hK hi_1 hi_2 _)) 0 0 (by omega) (by omega) ⟨fun h9 => ⟨by omega, fun t ht => by omega⟩, fun h9 => by have h8 := h9.1; omega⟩ (Nat.lt_succ_self _))
  ·
    refine w_kI e84_15 ?_
    refine w_x e84_16 (fun _ => rfl) ?_
    refine w_stI (j := 3) (A1 := [some (.ref 238), some (.int (vz i1)), some (.int (vz i2)), some (.int (vz 1)), none]) e84_20 (fun _ => rfl) (by decide) rfl ?_
    refine w_kI e84_21 ?_
    refine w_stI (j := 4) (A1 := [some (.ref 238), some (.int (vz i1)), some (.int (vz i2)), some (.int (vz 1)), some (.int (vz 0))]) e84_22 (fun _ => rfl) (by decide) rfl ?_
    exact w_sub (A1 := [some (.ref 238), some (.int (vz i1)), some (.int (vz i2)), some (.int (vz 1)), some (.int (vz 0))]) (And.intro rfl (And.intro rfl (And.intro rfl (And.intro rfl (And.intro rfl trivial))))) (((r84_L (sc := sc) (ai := ai) (al := al) (az := az) (v0 := v0) (vh := vh) (i1 := i1) (i2 := i2) hM hK hi_1 hi_2 _)) 1 0 (by omega) (by omega) ⟨fun h9 => ⟨by omega, fun t ht => by omega⟩, fun h9 => by have h8 := h9.1; omega⟩ (Nat.lt_succ_self _))
set_option maxRecDepth 100000 in
set_option maxHeartbeats 4000000 in
theorem r87_L {sc : Nat → Int} {ai : Nat → Nat → Int} {al : Nat → Nat → Int64} {az : Nat → Nat → Int32} {v0 : vm_H} (hK : tmok ai) {i1 : Int} (hi_1 : 0 ≤ i1 ∧ i1 < 72) {i2 : Int} (hi_2 : -2147483648 ≤ i2 ∧ i2 < 2147483648) {i3 : Int} (hi_3 : -2147483648 ≤ i3 ∧ i3 < 2147483648) {V : Nat → Nat} {nv p d : Nat} {l : Po} (hne : i1 ≠ 70) (hL : qL V nv ai al (i1).toNat l) (hgl : ∀ x, x ∈ l → x.1 < 256 ^ nv) (hV : pmV V nv) (hp : p < nv) (hv2 : i2 = (V p : Int)) (hd3 : i3 = (d : Int)) : ∀ N : Nat, (∀ (vh : vm_H) (al_ : Nat → Nat → Int64) (x4 : Int) (x5 : Int), (tm sc ai al_ az v0 vh) → (0 ≤ x4 ∧ x4 ≤ x5) → (0 ≤ x5 ∧ x5 ≤ ai 242 (i1).toNat) → (ldI V nv al al_ l p d x4 x5) → ((60 - x5 : Int).toNat < N) → vm_Wp 1 22 87 6 [some (.ref 238), some (.int (vz i1)), some (.int (vz i2)), some (.int (vz i3)), some (.int (vz x4)), some (.int (vz x5)), none, none] [] vh (vq_P 87 (fun r v1 => (∃ (al1 : Nat → Nat → Int64) (ai1 : Nat → Nat → Int), ldQ V nv ai ai1 al al1 (ldL l p d) ∧ tmok ai1 ∧ tm sc ai1 al1 az v0 v1) ∧ r = none))) := by
  have hcg := hK.1 (i1).toNat
  intro N
  induction N with
  | zero => exact (by intros; omega)
  | succ N ih =>
    ·
      intro vh al_ x4 x5 hM hx4 hx5 hi0 hN
      refine w_ldI e87_6 (fun _ => rfl) rfl ?_
      refine w_ldA e87_8 (fun _ => rfl) rfl ?_
      have e1 := tm_o hM
      refine w_get e87_9 e1 rfl ?_
      refine w_ldI e87_12 (fun _ => rfl) rfl ?_
      have e2 := tm_i hM (a := 242) (n := 72) rfl
      refine w_ald e87_13 e2 (by omega) (by omega) (by decide) ?_
      show vm_Wp _ _ _ 14 _ [.int (vz (ai 242 (i1).toNat)), .int (vz x5)] _ _
      have hk3 := hK.1 (i1).toNat
      refine w_ic e87_14 (by omega) (tm_r hM 242 (i1).toNat) (fun (h4 : ai 242 (i1).toNat ≤ x5) => ?_) (fun (h4 : x5 < ai 242 (i1).toNat) => ?_)
      ·
        refine w_ldA e87_99 (fun _ => rfl) rfl ?_
        refine w_get e87_100 e1 rfl ?_
        refine w_kB e87_103 rfl ?_
        refine w_ldI e87_105 (fun _ => rfl) rfl ?_
        refine w_ast e87_107 e2 (by omega) (by omega) (by decide) (by decide) (fun v7 b5 h6 => ?_)
        obtain ⟨ai8, hd10, hM9⟩ : ∃ z, z = u2 ai 242 (70 : Int).toNat x4 ∧ tm sc z al_ az v0 v7 := ⟨_, rfl, tm_pi hM rfl (by omega) b5 h6⟩
        have hK11 : tmok ai8 := by rw [hd10]; exact tmok_c hK (by omega)
        exact w_rv e87_108 rfl ⟨⟨al_, ai8, ldQ_e hi0 (by omega) hL hd10, hK11, hM9⟩, rfl⟩
      ·
        refine w_ldA e87_17 (fun _ => rfl) rfl ?_
        refine w_get e87_18 e1 rfl ?_
        refine w_kB e87_21 rfl ?_
        refine w_ldI e87_23 (fun _ => rfl) rfl ?_
        refine w_imul e87_24 ?_
        refine w_ldI e87_25 (fun _ => rfl) rfl ?_
        refine w_iadd e87_27 ?_
        have e12 := tm_l hM (a := 244) (n := 4320) rfl
        refine w_lld e87_28 e12 (by omega) (by omega) (by decide) ?_
        have hk9 : (al_ 244 ((60 * i1) + x5).toNat) = al 244 (60 * i1 + x5).toNat := hi0.1.2 244 _ (by omega)
        refine w_stL (j := 6) (A1 := [some (.ref 238), some (.int (vz i1)), some (.int (vz i2)), some (.int (vz i3)), some (.int (vz x4)), some (.int (vz x5)), some (.long ((al_ 244 ((60 * i1) + x5).toNat))), none]) e87_29 (fun _ => rfl) (by decide) rfl ?_
        refine w_ldL e87_31 (fun _ => rfl) rfl ?_
        refine w_ldI e87_33 (fun _ => rfl) rfl ?_
        refine w_cs e87_34 (by decide) (Nat.le_of_ble_eq_true rfl) (Nat.le_of_ble_eq_true rfl) (Nat.le_of_ble_eq_true rfl) (by decide) (by decide) (c78 hi_2) (fun o13 v14 hq15 => ?_)
        obtain ⟨rfl, rfl⟩ := hq15
        have hp16 := pw_bd ((al_ 244 ((60 * i1) + x5).toNat)) i2
        refine w_ldI e87_37 (fun _ => rfl) rfl ?_
        refine w_ic e87_38 (by omega) hi_3 (fun (h17 : pw ((al_ 244 ((60 * i1) + x5).toNat)) i2 ≠ i3) => ?_) (fun (h17 : pw ((al_ 244 ((60 * i1) + x5).toNat)) i2 = i3) => ?_)
        ·
          refine w_iinc (A1 := [some (.ref 238), some (.int (vz i1)), some (.int (vz i2)), some (.int (vz i3)), some (.int (vz x4)), some (.int (vz (x5 + 1))), some (.long ((al_ 244 ((60 * i1) + x5).toNat))), none]) e87_93 rfl (by decide) rfl ?_
          refine w_x e87_96 (fun _ => rfl) ?_
          exact w_sub (A1 := [some (.ref 238), some (.int (vz i1)), some (.int (vz i2)), some (.int (vz i3)), some (.int (vz x4)), some (.int (vz (x5 + 1))), none, none]) (And.intro rfl (And.intro rfl (And.intro rfl (And.intro rfl (And.intro rfl (And.intro rfl trivial)))))) ((ih) vh al_ x4 (x5 + 1) hM (by omega) (by omega) (ldI_n hi0 hL hV hp (by omega) (by rw [← hv2, ← hd3, ← ld_ix hi_1.1 hx5.1, ← hk9]; exact h17)) (by omega))
        ·
          refine w_ldA e87_41 (fun _ => rfl) rfl ?_
          refine w_get e87_42 e1 rfl ?_
          refine w_kS e87_45 rfl ?_
          refine w_ldI e87_48 (fun _ => rfl) rfl ?_
          refine w_iadd e87_50 ?_
          refine w_ldA e87_51 (fun _ => rfl) rfl ?_
          refine w_get e87_52 e1 rfl ?_
          refine w_kB e87_55 rfl ?_
          refine w_ldI e87_57 (fun _ => rfl) rfl ?_
          refine w_imul e87_58 ?_
          refine w_ldI e87_59 (fun _ => rfl) rfl ?_
          refine w_iadd e87_61 ?_
          have e18 := tm_l hM (a := 243) (n := 4320) rfl
          refine w_lld e87_62 e18 (by omega) (by omega) (by decide) ?_
          refine w_lst e87_63 e18 (by omega) (by omega) (by decide) (fun v21 b19 h20 => ?_)
          obtain ⟨al22, hd24, hM23⟩ : ∃ z, z = u2 al_ 243 (4200 + x4).toNat ((al_ 243 ((60 * i1) + x5).toNat)) ∧ tm sc ai z az v0 v21 := ⟨_, rfl, tm_pl hM rfl b19 h20⟩
          refine w_ldA e87_64 (fun _ => rfl) rfl ?_
          have e25 := tm_o hM23
          refine w_get e87_65 e25 rfl ?_
          refine w_kS e87_68 rfl ?_
          refine w_ldI e87_71 (fun _ => rfl) rfl ?_
          refine w_iadd e87_73 ?_
          refine w_ldL e87_74 (fun _ => rfl) rfl ?_
          refine w_x e87_76 (fun _ => rfl) ?_
          refine w_kB e87_79 rfl ?_
          refine w_ldI e87_81 (fun _ => rfl) rfl ?_
          refine w_imul e87_82 ?_
          refine w_x e87_83 (fun _ => rfl) ?_
          refine w_x e87_84 (fun _ => rfl) ?_
          refine w_x e87_87 (fun _ => rfl) ?_
          refine w_x e87_88 (fun _ => rfl) ?_
          have e26 := tm_l hM23 (a := 244) (n := 4320) rfl
          refine w_lst e87_89 e26 (by omega) (by omega) (by decide) (fun v29 b27 h28 => ?_)
          obtain ⟨al30, hd32, hM31⟩ : ∃ z, z = u2 al22 244 (4200 + x4).toNat ((((al_ 244 ((60 * i1) + x5).toNat)) &&& ((((((Int64.ofNat 255)) <<< ((vz (8 * i2)).toInt64 &&& 63))) ^^^ ((Int64.ofNat 18446744073709551615)))))) ∧ tm sc ai z az v0 v29 := ⟨_, rfl, tm_pl hM23 rfl b27 h28⟩
          refine w_iinc (A1 := [some (.ref 238), some (.int (vz i1)), some (.int (vz i2)), some (.int (vz i3)), some (.int (vz (x4 + 1))), some (.int (vz x5)), some (.long ((al_ 244 ((60 * i1) + x5).toNat))), none]) e87_90 rfl (by decide) rfl ?_
          refine w_iinc (A1 := [some (.ref 238), some (.int (vz i1)), some (.int (vz i2)), some (.int (vz i3)), some (.int (vz (x4 + 1))), some (.int (vz (x5 + 1))), some (.long ((al_ 244 ((60 * i1) + x5).toNat))), none]) e87_93 rfl (by decide) rfl ?_
          refine w_x e87_96 (fun _ => rfl) ?_
          exact w_sub (A1 := [some (.ref 238), some (.int (vz i1)), some (.int (vz i2)), some (.int (vz i3)), some (.int (vz (x4 + 1))), some (.int (vz (x5 + 1))), none, none]) (And.intro rfl (And.intro rfl (And.intro rfl (And.intro rfl (And.intro rfl (And.intro rfl trivial)))))) ((ih) v29 al30 (x4 + 1) (x5 + 1) hM31 (by omega) (by omega) (ldI_y hi0 hL hV hgl hp (by omega) (by omega) (by omega) hcg.2 (by rw [← hv2, ← hd3, ← ld_ix hi_1.1 hx5.1, ← hk9]; exact h17) (ld_ix hi_1.1 hx5.1) (ld_i4 hx4.1) hd24 (by rw [← hk9]) (by rw [← hv2]; exact hd32)) (by omega))
set_option maxRecDepth 100000 in
set_option maxHeartbeats 4000000 in
theorem r87 {sc : Nat → Int} {ai : Nat → Nat → Int} {al : Nat → Nat → Int64} {az : Nat → Nat → Int32} {v0 vh : vm_H} (hM : tm sc ai al az v0 vh) (hK : tmok ai) {i1 : Int} (hi_1 : 0 ≤ i1 ∧ i1 < 72) {i2 : Int} (hi_2 : -2147483648 ≤ i2 ∧ i2 < 2147483648) {i3 : Int} (hi_3 : -2147483648 ≤ i3 ∧ i3 < 2147483648) {V : Nat → Nat} {nv p d : Nat} {l : Po} (hne : i1 ≠ 70) (hL : qL V nv ai al (i1).toNat l) (hgl : ∀ x, x ∈ l → x.1 < 256 ^ nv) (hV : pmV V nv) (hp : p < nv) (hv2 : i2 = (V p : Int)) (hd3 : i3 = (d : Int)) : vm_Rp 1 22 87 [.ref 238, .int (vz i1), .int (vz i2), .int (vz i3)] vh (fun r v1 => (∃ (al1 : Nat → Nat → Int64) (ai1 : Nat → Nat → Int), ldQ V nv ai ai1 al al1 (ldL l p d) ∧ tmok ai1 ∧ tm sc ai1 al1 az v0 v1) ∧ r = none) := by
  have hcg := hK.1 (i1).toNat
  refine w_in (m := 4) ?_
  show vm_Wp _ _ _ 0 [some (.ref 238), some (.int (vz i1)), some (.int (vz i2)), some (.int (vz i3)), none, none, none, none] [] _ _
  refine w_kI e87_0 ?_
  refine w_stI (j := 4) (A1 := [some (.ref 238), some (.int (vz i1)), some (.int (vz i2)), some (.int (vz i3)), some (.int (vz 0)), none, none, none]) e87_1 (fun _ => rfl) (by decide) rfl ?_
  refine w_kI e87_3 ?_
  refine w_stI (j := 5) (A1 := [some (.ref 238), some (.int (vz i1)), some (.int (vz i2)), some (.int (vz i3)), some (.int (vz 0)), some (.int (vz 0)), none, none]) e87_4 (fun _ => rfl) (by decide) rfl ?_
  exact w_sub (A1 := [some (.ref 238), some (.int (vz i1)), some (.int (vz i2)), some (.int (vz i3)), some (.int (vz 0)), some (.int (vz 0)), none, none]) (And.intro rfl (And.intro rfl (And.intro rfl (And.intro rfl (And.intro rfl (And.intro rfl trivial)))))) (((r87_L (sc := sc) (ai := ai) (al := al) (az := az) (v0 := v0) (i1 := i1) (i2 := i2) (i3 := i3) (V := V) (nv := nv) (p := p) (d := d) (l := l) hK hi_1 hi_2 hi_3 hne hL hgl hV hp hv2 hd3 _)) vh al 0 0 hM (by omega) (by omega) ldI_0 (Nat.lt_succ_self _))
