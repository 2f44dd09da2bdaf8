set_option maxRecDepth 100000 in
set_option maxHeartbeats 4000000 in
theorem r110 {sc : Nat → Int} {ai : Nat → Nat → Int} {al : Nat → Nat → Int64} {az : Nat → Nat → Int32} {v0 vh : vm_H} (hM : tm sc ai al az v0 vh) (hK : tmok ai) {i1 : Int} (hi_1 : -2147483648 ≤ i1 ∧ i1 < 2147483648) : vm_Rp 0 0 110 [.ref 238, .int (vz i1)] vh (fun r v1 => vh = v1 ∧ ∃ q : Int, ((0 ≤ q ∧ q ≤ 1) ∧ (q = 0 ↔ (0 ≤ i1 ∧ i1 < sc 11))) ∧ r = some (.int (vz q))) := by
  refine w_in (m := 0) ?_
  show vm_Wp _ _ _ 0 [some (.ref 238), some (.int (vz i1))] [] _ _
  refine w_ldI e110_0 (fun _ => rfl) rfl ?_
  refine w_if e110_1 hi_1 (fun (h1 : i1 < 0) => ?_) (fun (h1 : 0 ≤ i1) => ?_)
  ·
    refine w_kI e110_12 ?_
    refine w_x e110_13 (fun _ => rfl) ?_
    exact w_rz e110_17 rfl (by omega) ⟨rfl, 1, ⟨by omega, by omega⟩, rfl⟩
  ·
    refine w_ldI e110_4 (fun _ => rfl) rfl ?_
    refine w_ldA e110_5 (fun _ => rfl) rfl ?_
    have e2 := tm_o hM
    refine w_get e110_6 e2 rfl ?_
    refine w_ic e110_9 hi_1 (tm_s hM 11) (fun (h3 : i1 < sc 11) => ?_) (fun (h3 : sc 11 ≤ i1) => ?_)
    ·
      refine w_kI e110_16 ?_
      exact w_rz e110_17 rfl (by omega) ⟨rfl, 0, ⟨by omega, by omega⟩, rfl⟩
    ·
      refine w_kI e110_12 ?_
      refine w_x e110_13 (fun _ => rfl) ?_
      exact w_rz e110_17 rfl (by omega) ⟨rfl, 1, ⟨by omega, by omega⟩, rfl⟩
set_option maxRecDepth 100000 in
set_option maxHeartbeats 4000000 in
theorem r111 {sc : Nat → Int} {ai : Nat → Nat → Int} {al : Nat → Nat → Int64} {az : Nat → Nat → Int32} {v0 vh : vm_H} (hM : tm sc ai al az v0 vh) (hK : tmok ai) {i1 : Int} (hi_1 : 0 ≤ i1 ∧ i1 < 8) {fr : Nat → Bool} {V : Nat → Nat} {nv : Nat} (hv : sc 1 = (nv : Int)) (hvr : vR ai = V) (hfr : frR az ai = fr) (hV : pmV V nv) {m : Nat} {S : Nat → Po × Nat × Nat} (hms : msQ fr V nv sc ai al m S) (him : i1 < (m : Int)) : vm_Rp 3 69 111 [.ref 238, .int (vz i1)] vh (fun r v1 => vh = v1 ∧ ∃ q : Int, q = (V (S (i1).toNat).2.1 : Int) ∧ r = some (.int (vz q))) := by
  have hmj := hms.2 (i1).toNat (by omega)
  have hpb := pl_bd (fr := fr) (nv := nv) (f := (S (i1).toNat).1)
  have hpc := hmj.2.1
  have hVn := hV.1
  refine w_in (m := 0) ?_
  show vm_Wp _ _ _ 0 [some (.ref 238), some (.int (vz i1))] [] _ _
  refine w_ldA e111_0 (fun _ => rfl) rfl ?_
  have e1 := tm_o hM
  refine w_get e111_1 e1 rfl ?_
  refine w_ldA e111_4 (fun _ => rfl) rfl ?_
  refine w_kB e111_5 rfl ?_
  refine w_ldI e111_7 (fun _ => rfl) rfl ?_
  refine w_iadd e111_8 ?_
  refine w_cv e111_9 (by decide) rfl e1 rfl (Nat.le_of_ble_eq_true rfl) (Nat.le_of_ble_eq_true rfl) (Nat.le_of_ble_eq_true rfl) (by decide) (by decide) (c86 hM hK (by omega) (by omega)) (fun o2 v3 hq4 => ?_)
  obtain ⟨rfl, rfl⟩ := hq4
  have hp5 := mpf_bd (az 239) (ai 240) (fun v => dgf (al 244) (60 * (58 + i1)).toNat v (ai 242 (58 + i1).toNat).toNat) (sc 1).toNat
  show vm_Wp _ _ _ 12 _ [.int (vz (mpf (az 239) (ai 240) (fun v => dgf (al 244) (60 * (58 + i1)).toNat v (ai 242 (58 + i1).toNat).toNat) (sc 1).toNat)), .ref 240] _ _
  have hmp : mpf (az 239) (ai 240) (fun v => dgf (al 244) (60 * (58 + i1)).toNat v (ai 242 (58 + i1).toNat).toNat) (sc 1).toNat = ((S (i1).toNat).2.1 : Int) := by rw [re_mp (i := 58 + (i1).toNat) hmj.1.1 hV hvr hK hv (by omega), hfr]; exact hmj.2.1
  have e6 := tm_i hM (a := 240) (n := 8) rfl
  refine w_ald e111_12 e6 (by omega) (by omega) (by decide) ?_
  show vm_Wp _ _ _ 13 _ [.int (vz (ai 240 (mpf (az 239) (ai 240) (fun v => dgf (al 244) (60 * (58 + i1)).toNat v (ai 242 (58 + i1).toNat).toNat) (sc 1).toNat).toNat))] _ _
  have hk7 := hK.2 (mpf (az 239) (ai 240) (fun v => dgf (al 244) (60 * (58 + i1)).toNat v (ai 242 (58 + i1).toNat).toNat) (sc 1).toNat).toNat
  have hvv : ai 240 (mpf (az 239) (ai 240) (fun v => dgf (al 244) (60 * (58 + i1)).toNat v (ai 242 (58 + i1).toNat).toNat) (sc 1).toNat).toNat = (V (S (i1).toNat).2.1 : Int) := by rw [hmp, Int.toNat_natCast]; exact re_o hK hvr
  exact w_ri e111_13 rfl ⟨rfl, _, hvv, rfl⟩
set_option maxRecDepth 100000 in
set_option maxHeartbeats 4000000 in
theorem r114 {sc : Nat → Int} {ai : Nat → Nat → Int} {al : Nat → Nat → Int64} {az : Nat → Nat → Int32} {v0 vh : vm_H} (hM : tm sc ai al az v0 vh) (hK : tmok ai) {i1 : Int} (hi_1 : -2147483648 ≤ i1 ∧ i1 < 2147483648) {i2 : Int} (hi_2 : -2147483648 ≤ i2 ∧ i2 < 2147483648) {fr : Nat → Bool} {V : Nat → Nat} {nv : Nat} (hv : sc 1 = (nv : Int)) (hvr : vR ai = V) (hfr : frR az ai = fr) (hV : pmV V nv) {m : Nat} {S : Nat → Po × Nat × Nat} (hms : msQ fr V nv sc ai al m S) (hp4 : 0 ≤ sc 4 ∧ sc 4 ≤ 16) (hm11 : 0 ≤ sc 11 ∧ sc 11 ≤ 8) : vm_Rp 4 90 114 [.ref 238, .int (vz i1), .int (vz i2)] vh (fun r v1 => ∃ (ai1 : Nat → Nat → Int) (al1 : Nat → Nat → Int64) (q : Int), slO V nv S sc ai ai1 al al1 i1 i2 q ∧ r = some (.int (vz q)) ∧ tmok ai1 ∧ tm sc ai1 al1 az v0 v1) := by
  refine w_in (m := 0) ?_
  show vm_Wp _ _ _ 0 [some (.ref 238), some (.int (vz i1)), some (.int (vz i2))] [] _ _
  refine w_ldI e114_0 (fun _ => rfl) rfl ?_
  by_cases h1 : i1 < 0 ∨ 4 < i1
  ·
    refine w_swO (t := 142) e114_1 hi_1 h1 rfl ?_
    refine w_kI e114_142 ?_
    exact w_ri e114_143 rfl ⟨ai, al, -1, Or.inr ⟨⟨rfl, rfl⟩, Or.inr (Or.inr (Or.inr (Or.inr ⟨rfl, by omega, by omega, by omega, by omega, by omega⟩)))⟩, rfl, hK, hM⟩
  ·
    have h2 : i1 = 0 ∨ i1 = 1 ∨ i1 = 2 ∨ i1 = 3 ∨ i1 = 4 := by omega
    rcases h2 with h2 | h2 | h2 | h2 | h2
    ·
      refine w_swI (t := 36) e114_1 hi_1 h1 (by rw [h2]; rfl) rfl ?_
      refine w_ldA e114_36 (fun _ => rfl) rfl ?_
      refine w_ldI e114_37 (fun _ => rfl) rfl ?_
      have e3 := tm_o hM
      refine w_cv e114_38 (by decide) rfl e3 rfl (Nat.le_of_ble_eq_true rfl) (Nat.le_of_ble_eq_true rfl) (Nat.le_of_ble_eq_true rfl) (by decide) (by decide) (r103 hM hK hi_2) (fun o4 v5 hq6 => ?_)
      obtain ⟨rfl, q7, h8, rfl⟩ := hq6
      have hb9 := h8
      refine w_if e114_41 (by omega) (fun (h10 : q7 = 0) => ?_) (fun (h10 : q7 ≠ 0) => ?_)
      ·
        refine w_ldI e114_48 (fun _ => rfl) rfl ?_
        exact w_ri e114_49 rfl ⟨ai, al, i2, Or.inr ⟨⟨rfl, rfl⟩, Or.inl ⟨by omega, by omega, by omega⟩⟩, rfl, hK, hM⟩
      ·
        refine w_kI e114_44 ?_
        refine w_x e114_45 (fun _ => rfl) ?_
        exact w_ri e114_49 rfl ⟨ai, al, -1, Or.inr ⟨⟨rfl, rfl⟩, Or.inr (Or.inr (Or.inr (Or.inr ⟨rfl, by omega, by omega, by omega, by omega, by omega⟩)))⟩, rfl, hK, hM⟩
    ·
      refine w_swI (t := 50) e114_1 hi_1 h1 (by rw [h2]; rfl) rfl ?_
      refine w_ldA e114_50 (fun _ => rfl) rfl ?_
      refine w_ldI e114_51 (fun _ => rfl) rfl ?_
      have e11 := tm_o hM
      refine w_cv e114_52 (by decide) rfl e11 rfl (Nat.le_of_ble_eq_true rfl) (Nat.le_of_ble_eq_true rfl) (Nat.le_of_ble_eq_true rfl) (by decide) (by decide) (r110 hM hK hi_2) (fun o12 v13 hq14 => ?_)
      obtain ⟨rfl, q15, h16q, rfl⟩ := hq14
      have hb17 := h16q
      refine w_if e114_55 (by omega) (fun (h18 : q15 = 0) => ?_) (fun (h18 : q15 ≠ 0) => ?_)
      ·
        refine w_kB e114_62 rfl ?_
        refine w_ldI e114_64 (fun _ => rfl) rfl ?_
        refine w_iadd e114_65 ?_
        exact w_ri e114_66 rfl ⟨ai, al, 58 + i2, Or.inr ⟨⟨rfl, rfl⟩, Or.inr (Or.inl ⟨by omega, by omega, by omega⟩)⟩, rfl, hK, hM⟩
      ·
        refine w_kI e114_58 ?_
        refine w_x e114_59 (fun _ => rfl) ?_
        exact w_ri e114_66 rfl ⟨ai, al, -1, Or.inr ⟨⟨rfl, rfl⟩, Or.inr (Or.inr (Or.inr (Or.inr ⟨rfl, by omega, by omega, by omega, by omega, by omega⟩)))⟩, rfl, hK, hM⟩
    ·
      refine w_swI (t := 67) e114_1 hi_1 h1 (by rw [h2]; rfl) rfl ?_
      refine w_ldA e114_67 (fun _ => rfl) rfl ?_
      refine w_ldI e114_68 (fun _ => rfl) rfl ?_
      have e19 := tm_o hM
      refine w_cv e114_69 (by decide) rfl e19 rfl (Nat.le_of_ble_eq_true rfl) (Nat.le_of_ble_eq_true rfl) (Nat.le_of_ble_eq_true rfl) (by decide) (by decide) (r110 hM hK hi_2) (fun o20 v21 hq22 => ?_)
      obtain ⟨rfl, q23, h24, rfl⟩ := hq22
      have hb25 := h24
      refine w_if e114_72 (by omega) (fun (h26 : q23 = 0) => ?_) (fun (h26 : q23 ≠ 0) => ?_)
      ·
        have hm1 := hms.1.1
        have hm2 := hms.1.2
        have hmj := hms.2 (i2).toNat (by omega)
        have hpb := pl_bd (fr := fr) (nv := nv) (f := (S (i2).toNat).1)
        have hpc := hmj.2.1
        have hpn : (S (i2).toNat).2.1 < nv := by omega
        have hVn := hV.1
        refine w_ldA e114_77 (fun _ => rfl) rfl ?_
        refine w_kB e114_78 rfl ?_
        refine w_ldI e114_80 (fun _ => rfl) rfl ?_
        refine w_iadd e114_81 ?_
        refine w_ldA e114_82 (fun _ => rfl) rfl ?_
        refine w_ldI e114_83 (fun _ => rfl) rfl ?_
        refine w_cv e114_84 (by decide) rfl e19 rfl (Nat.le_of_ble_eq_true rfl) (Nat.le_of_ble_eq_true rfl) (Nat.le_of_ble_eq_true rfl) (by decide) (by decide) (r111 hM hK (by omega) hv hvr hfr hV hms (by omega)) (fun o27 v28 hq29 => ?_)
        obtain ⟨rfl, q30, h31, rfl⟩ := hq29
        have hb32 := hV.2.1 (S (i2).toNat).2.1 hpn
        refine w_ldA e114_87 (fun _ => rfl) rfl ?_
        refine w_kB e114_88 rfl ?_
        refine w_ldI e114_90 (fun _ => rfl) rfl ?_
        refine w_iadd e114_91 ?_
        refine w_ldA e114_92 (fun _ => rfl) rfl ?_
        refine w_ldI e114_93 (fun _ => rfl) rfl ?_
        refine w_cv e114_94 (by decide) rfl e19 rfl (Nat.le_of_ble_eq_true rfl) (Nat.le_of_ble_eq_true rfl) (Nat.le_of_ble_eq_true rfl) (by decide) (by decide) (r111 hM hK (by omega) hv hvr hfr hV hms (by omega)) (fun o33 v34 hq35 => ?_)
        obtain ⟨rfl, q36, h37, rfl⟩ := hq35
        have hb38 := hV.2.1 (S (i2).toNat).2.1 hpn
        refine w_cv e114_97 (by decide) rfl e19 rfl (Nat.le_of_ble_eq_true rfl) (Nat.le_of_ble_eq_true rfl) (Nat.le_of_ble_eq_true rfl) (by decide) (by decide) (c85 hM hK (by omega) (by omega)) (fun o39 v40 hq41 => ?_)
        obtain ⟨rfl, rfl⟩ := hq41
        have hp42 := dgf_bd (al 244) (60 * (58 + i2)).toNat q36 (ai 242 (58 + i2).toNat).toNat
        show vm_Wp _ _ _ 100 _ [.int (vz (dgf (al 244) (60 * (58 + i2)).toNat q36 (ai 242 (58 + i2).toNat).toNat)), .int (vz q30), .int (vz (58 + i2)), .ref 238] _ _
        have hdd : dgf (al 244) (60 * (58 + i2)).toNat q36 (ai 242 (58 + i2).toNat).toNat = ((S (i2).toNat).2.2 : Int) := by rw [qL_dg (i := 58 + (i2).toNat) hmj.1.1 hV hpn h37 (by omega), ← hmj.2.2]
        refine w_cv e114_100 (by decide) rfl e19 rfl (Nat.le_of_ble_eq_true rfl) (Nat.le_of_ble_eq_true rfl) (Nat.le_of_ble_eq_true rfl) (by decide) (by decide) (r87 hM hK (by omega) (by omega) (by omega) (by omega) (l := (S (i2).toNat).1) (p := (S (i2).toNat).2.1) (d := (S (i2).toNat).2.2) (by rw [show (58 + i2).toNat = 58 + (i2).toNat by omega]; exact hmj.1.1) (fun x hx => hmj.1.2.2.2 x hx) hV hpn h31 hdd) (fun o43 v44 hq45 => ?_)
        obtain ⟨⟨al46, ai47, hl48, hK49, hM50⟩, rfl⟩ := hq45
        have hk51 := hK49.1 70
        have hk52 := hK49.1 69
        refine w_kB e114_103 rfl ?_
        exact w_ri e114_105 rfl ⟨ai47, al46, 70, Or.inl ⟨by omega, by omega, rfl, hl48⟩, rfl, hK49, hM50⟩
      ·
        refine w_kI e114_75 ?_
        exact w_ri e114_76 rfl ⟨ai, al, -1, Or.inr ⟨⟨rfl, rfl⟩, Or.inr (Or.inr (Or.inr (Or.inr ⟨rfl, by omega, by omega, by omega, by omega, by omega⟩)))⟩, rfl, hK, hM⟩
    ·
      refine w_swI (t := 106) e114_1 hi_1 h1 (by rw [h2]; rfl) rfl ?_
      refine w_ldI e114_106 (fun _ => rfl) rfl ?_
      refine w_if e114_107 hi_2 (fun (h53 : i2 ≠ 0) => ?_) (fun (h53 : i2 = 0) => ?_)
      ·
        refine w_kI e114_122 ?_
        exact w_ri e114_123 rfl ⟨ai, al, -1, Or.inr ⟨⟨rfl, rfl⟩, Or.inr (Or.inr (Or.inr (Or.inr ⟨rfl, by omega, by omega, by omega, by omega, by omega⟩)))⟩, rfl, hK, hM⟩
      ·
        refine w_ldA e114_110 (fun _ => rfl) rfl ?_
        have e54 := tm_o hM
        refine w_get e114_111 e54 rfl ?_
        refine w_if e114_114 (tm_s hM 12) (fun (h55 : sc 12 = 0) => ?_) (fun (h55 : sc 12 ≠ 0) => ?_)
        ·
          refine w_kI e114_122 ?_
          exact w_ri e114_123 rfl ⟨ai, al, -1, Or.inr ⟨⟨rfl, rfl⟩, Or.inr (Or.inr (Or.inr (Or.inr ⟨rfl, by omega, by omega, by omega, by omega, by omega⟩)))⟩, rfl, hK, hM⟩
        ·
          refine w_kB e114_117 rfl ?_
          refine w_x e114_119 (fun _ => rfl) ?_
          exact w_ri e114_123 rfl ⟨ai, al, 67, Or.inr ⟨⟨rfl, rfl⟩, Or.inr (Or.inr (Or.inl ⟨by omega, by omega, by omega⟩))⟩, rfl, hK, hM⟩
    ·
      refine w_swI (t := 124) e114_1 hi_1 h1 (by rw [h2]; rfl) rfl ?_
      refine w_ldI e114_124 (fun _ => rfl) rfl ?_
      refine w_if e114_125 hi_2 (fun (h56 : i2 ≠ 0) => ?_) (fun (h56 : i2 = 0) => ?_)
      ·
        refine w_kI e114_140 ?_
        exact w_ri e114_141 rfl ⟨ai, al, -1, Or.inr ⟨⟨rfl, rfl⟩, Or.inr (Or.inr (Or.inr (Or.inr ⟨rfl, by omega, by omega, by omega, by omega, by omega⟩)))⟩, rfl, hK, hM⟩
      ·
        refine w_ldA e114_128 (fun _ => rfl) rfl ?_
        have e57 := tm_o hM
        refine w_get e114_129 e57 rfl ?_
        refine w_if e114_132 (tm_s hM 13) (fun (h58 : sc 13 = 0) => ?_) (fun (h58 : sc 13 ≠ 0) => ?_)
        ·
          refine w_kI e114_140 ?_
          exact w_ri e114_141 rfl ⟨ai, al, -1, Or.inr ⟨⟨rfl, rfl⟩, Or.inr (Or.inr (Or.inr (Or.inr ⟨rfl, by omega, by omega, by omega, by omega, by omega⟩)))⟩, rfl, hK, hM⟩
        ·
          refine w_kB e114_135 rfl ?_
          refine w_x e114_137 (fun _ => rfl) ?_
          exact w_ri e114_141 rfl ⟨ai, al, 68, Or.inr ⟨⟨rfl, rfl⟩, Or.inr (Or.inr (Or.inr (Or.inl ⟨by omega, by omega, by omega⟩)))⟩, rfl, hK, hM⟩
