theorem e122_0 : vm_ent 122 0 = some (.aload_n 0, 0, 0, 0) := by decide +kernel
theorem e122_1 : vm_ent 122 1 = some (.lload_n 3, 0, 0, 0) := by decide +kernel
theorem e122_2 : vm_ent 122 2 = some (.lconst 0, 0, 0, 0) := by decide +kernel
theorem e122_3 : vm_ent 122 3 = some (.lcmp, 0, 0, 0) := by decide +kernel
theorem e122_4 : vm_ent 122 4 = some (.ifCond .ne 7, 11, 0, 0) := by decide +kernel
theorem e122_7 : vm_ent 122 7 = some (.iconst 1, 0, 0, 0) := by decide +kernel
theorem e122_8 : vm_ent 122 8 = some (.goto 4, 12, 0, 0) := by decide +kernel
theorem e122_11 : vm_ent 122 11 = some (.iconst 0, 0, 0, 0) := by decide +kernel
theorem e122_12 : vm_ent 122 12 = some (.putfield 84, 6, 0, 634) := by decide +kernel
theorem e122_15 : vm_ent 122 15 = some (.aload_n 0, 0, 0, 0) := by decide +kernel
theorem e122_16 : vm_ent 122 16 = some (.getfield 84, 6, 0, 634) := by decide +kernel
theorem e122_19 : vm_ent 122 19 = some (.ifCond .le 7, 26, 0, 0) := by decide +kernel
theorem e122_22 : vm_ent 122 22 = some (.lconst 0, 0, 0, 0) := by decide +kernel
theorem e122_23 : vm_ent 122 23 = some (.goto 9, 32, 0, 0) := by decide +kernel
theorem e122_26 : vm_ent 122 26 = some (.lload_n 1, 0, 0, 0) := by decide +kernel
theorem e122_27 : vm_ent 122 27 = some (.bipush 32, 0, 0, 0) := by decide +kernel
theorem e122_29 : vm_ent 122 29 = some (.lshl, 0, 0, 0) := by decide +kernel
theorem e122_30 : vm_ent 122 30 = some (.lload_n 3, 0, 0, 0) := by decide +kernel
theorem e122_31 : vm_ent 122 31 = some (.ldiv, 0, 0, 0) := by decide +kernel
theorem e122_32 : vm_ent 122 32 = some (.lreturn, 0, 0, 0) := by decide +kernel
theorem c122n {sc : Nat → Int} {ai : Nat → Nat → Int} {al : Nat → Nat → Int64} {az : Nat → Nat → Int32} {v0 vh : vm_H} (hM : tm sc ai al az v0 vh) (a b : Int64) (hb0 : ¬ b = 0) : vm_Rp 0 0 122 [.ref 238, .long a, .long b] vh (fun q v1 => tm (u1 sc 0 0) ai al az v0 v1 ∧ q = some (.long (a <<< (Int32.toInt64 (Int8.ofInt 32).toInt32 &&& 63) / b))) := by
  refine w_in (m := 0) ?_
  show vm_Wp _ _ _ 0 [some (.ref 238), some (.long a), none, some (.long b), none] [] _ _
  refine w_ldA e122_0 (fun _ => rfl) rfl ?_
  refine w_ldL e122_1 (fun _ => rfl) rfl ?_
  refine w_x e122_2 (fun _ => rfl) ?_
  refine w_lcmp e122_3 (fun q hq h1 h2 => ?_)
  refine w_if e122_4 (by omega) (fun (h : q ≠ 0) => ?_) (fun (h : q = 0) => absurd (h1.mp h) hb0)
  refine w_kI e122_11 ?_
  refine w_put e122_12 (tm_o hM) (Nat.le_of_ble_eq_true rfl) rfl (fun v1 b1 hc => ?_)
  have hM1 := tm_ps 0 hM (q := 0) (by omega) b1 hc
  refine w_ldA e122_15 (fun _ => rfl) rfl ?_
  refine w_get e122_16 (tm_o hM1) rfl ?_
  show vm_Wp _ _ _ 19 _ [.int (vz 0)] _ _
  refine w_if e122_19 (by omega) (fun _ => ?_) (fun (h : (0 : Int) < 0) => absurd h (by decide))
  refine w_ldL e122_26 (fun _ => rfl) rfl ?_
  refine w_x e122_27 (fun _ => rfl) ?_
  refine w_x e122_29 (fun _ => rfl) ?_
  refine w_ldL e122_30 (fun _ => rfl) rfl ?_
  refine w_div e122_31 hb0 ?_
  exact w_rl e122_32 rfl ⟨hM1, rfl⟩
theorem c122z {sc : Nat → Int} {ai : Nat → Nat → Int} {al : Nat → Nat → Int64} {az : Nat → Nat → Int32} {v0 vh : vm_H} (hM : tm sc ai al az v0 vh) (a b : Int64) (hb0 : b = 0) : vm_Rp 0 0 122 [.ref 238, .long a, .long b] vh (fun q v1 => tm (u1 sc 0 1) ai al az v0 v1 ∧ ∃ l : Int64, q = some (.long l)) := by
  refine w_in (m := 0) ?_
  show vm_Wp _ _ _ 0 [some (.ref 238), some (.long a), none, some (.long b), none] [] _ _
  refine w_ldA e122_0 (fun _ => rfl) rfl ?_
  refine w_ldL e122_1 (fun _ => rfl) rfl ?_
  refine w_x e122_2 (fun _ => rfl) ?_
  refine w_lcmp e122_3 (fun q hq h1 h2 => ?_)
  refine w_if e122_4 (by omega) (fun (h : q ≠ 0) => absurd (h1.mpr hb0) h) (fun (h : q = 0) => ?_)
  refine w_kI e122_7 ?_
  refine w_x e122_8 (fun _ => rfl) ?_
  refine w_put e122_12 (tm_o hM) (Nat.le_of_ble_eq_true rfl) rfl (fun v1 b1 hc => ?_)
  have hM1 := tm_ps 0 hM (q := 1) (by omega) b1 hc
  refine w_ldA e122_15 (fun _ => rfl) rfl ?_
  refine w_get e122_16 (tm_o hM1) rfl ?_
  show vm_Wp _ _ _ 19 _ [.int (vz 1)] _ _
  refine w_if e122_19 (by omega) (fun (h : (1 : Int) ≤ 0) => absurd h (by decide)) (fun _ => ?_)
  refine w_x e122_22 (fun _ => rfl) ?_
  refine w_x e122_23 (fun _ => rfl) ?_
  exact w_rl e122_32 rfl ⟨hM1, _, rfl⟩
theorem y122n {L : Nat} {xs : Nat → Int32} {vh : vm_H} {n p n2 p2 t : Int} {g : Int64} {u : D5u} {w : D5w} (h : lI L xs vh n p n2 p2 t g u w) (a b : Int64) (hb0 : ¬ b = 0) : vm_Rp 0 0 122 [.ref 238, .long a, .long b] vh (fun r v1 => lI L xs v1 n p n2 p2 0 g u w ∧ r = some (.long (a <<< (Int32.toInt64 (Int8.ofInt 32).toInt32 &&& 63) / b))) := by
  obtain ⟨θ, sc, ai, al, az, fo, ⟨⟨rfl, rfl⟩, ⟨rfl, rfl⟩, rfl, rfl⟩, hT, hM, hK, hI, hR, hS, hO, hU, hW⟩ := h
  refine (c122n hM a b hb0).imp fun r v1 hq => ?_
  exact ⟨lI_y hT hU hq.1 hK (gi_s hI rfl (by decide) (by decide) (by decide)) (ri2_fr hR hK (fr_s (X := [0]) (Y := []) (lo := 1) (hi := 0) (fr_0 _ _ _ _ sc ai al az) rfl rfl) rfl rfl rfl rfl rfl rfl rfl rfl rfl (by omega)) hS hO hW, hq.2⟩
theorem y122z {L : Nat} {xs : Nat → Int32} {vh : vm_H} {n p n2 p2 t : Int} {g : Int64} {u : D5u} {w : D5w} (h : lI L xs vh n p n2 p2 t g u w) (a b : Int64) (hb0 : b = 0) : vm_Rp 0 0 122 [.ref 238, .long a, .long b] vh (fun r v1 => lI L xs v1 n p n2 p2 1 g u w ∧ ∃ l : Int64, r = some (.long l)) := by
  obtain ⟨θ, sc, ai, al, az, fo, ⟨⟨rfl, rfl⟩, ⟨rfl, rfl⟩, rfl, rfl⟩, hT, hM, hK, hI, hR, hS, hO, hU, hW⟩ := h
  refine (c122z hM a b hb0).imp fun r v1 hq => ?_
  exact ⟨lI_y hT hU hq.1 hK (gi_s hI rfl (by decide) (by decide) (by decide)) (ri2_fr hR hK (fr_s (X := [0]) (Y := []) (lo := 1) (hi := 0) (fr_0 _ _ _ _ sc ai al az) rfl rfl) rfl rfl rfl rfl rfl rfl rfl rfl rfl (by omega)) hS hO hW, hq.2⟩

/-- a slot that the frame leaves -/
theorem rW_at {X Y : List Nat} {lo hi i : Nat} {sc sc1 : Nat → Int} {ai ai1 : Nat → Nat → Int} {al al1 : Nat → Nat → Int64} {az az1 : Nat → Nat → Int32} {w : D5w} (h : rW ai al w) (hk : tmok ai) (hf : fr X Y lo hi sc ai al az sc1 ai1 al1 az1) (hi_ : i < 16) (hl : i < lo ∨ hi < i) : ai1 242 i = w.1 i ∧ ls (pr_ al1 (60 * i)) (ai1 242 i).toNat = w.2 i := by
  have h0 := hk.1 i
  have h1 := h i hi_
  have q := hf.2.2.2.1 i hl
  refine ⟨q.1.trans h1.1, ?_⟩
  rw [q.1, ← h1.2, h1.1]
  refine ls_cg _ fun t ht => ?_
  have q2 := q.2 t (by omega)
  unfold pr_
  rw [q2.1, q2.2]
def wN (ai : Nat → Nat → Int) (al : Nat → Nat → Int64) : D5w := (fun i => ai 242 i, fun i => ls (pr_ al (60 * i)) (ai 242 i).toNat)
theorem rW_N {ai : Nat → Nat → Int} {al : Nat → Nat → Int64} : rW ai al (wN ai al) := fun _ _ => ⟨rfl, rfl⟩
theorem rW_e {ai : Nat → Nat → Int} {al : Nat → Nat → Int64} {w : D5w} (h : rW ai al w) {i : Nat} (hi : i < 16) : (wN ai al).1 i = w.1 i ∧ (wN ai al).2 i = w.2 i := by
  have h1 := h i hi
  refine ⟨h1.1, ?_⟩
  show ls (pr_ al (60 * i)) (ai 242 i).toNat = _
  rw [h1.1]
  exact h1.2
theorem x44 {L : Nat} {xs : Nat → Int32} {vh : vm_H} {n p n2 p2 t : Int} {g : Int64} {u : D5u} {w : D5w} (h : lI L xs vh n p n2 p2 t g u w) {i1 : Int} (hi_1 : 0 ≤ i1 ∧ i1 ≤ 1) : vm_Rp 2 43 44 [.ref 1, .int (vz i1)] vh (fun r v1 => ∃ (n1 : Int) (ua : D5u) (q : Int), ua.2 = u.2 ∧ ((n = 8 ∧ q = -1 ∧ n1 = n ∧ ua.1 = u.1) ∨ (n < 8 ∧ q = n ∧ n1 = n + 1 ∧ ua.1 = u1 u.1 n.toNat n)) ∧ lI L xs v1 n1 p n2 p2 t g ua w ∧ r = some (.int (vz q))) := by
  obtain ⟨θ, sc, ai, al, az, fo, ⟨⟨rfl, rfl⟩, ⟨rfl, rfl⟩, rfl, rfl⟩, hT, hM, hK, hI, hR, hS, hO, hU, hW⟩ := h
  refine (c44x hT hU.1 hU.2.1 hi_1).imp fun r v1 hq => ?_
  obtain ⟨q, n1, V1, hk, hT1, h5, hO1, hk6, hc, rfl⟩ := hq
  exact ⟨n1, (V1, u.2), q, rfl, hc, lI_x (θ1 := (n1, θ.2)) (ua := (V1, u.2)) hk hT1 ⟨h5, hO1, fun i hi => cP_keep (hU.2.2 i hi) hi (fun b hb => hk6 b (by omega))⟩ hM hK hI hR hS hO hW, rfl⟩
theorem x45 {L : Nat} {xs : Nat → Int32} {vh : vm_H} {n p n2 p2 t : Int} {g : Int64} {u : D5u} {w : D5w} (h : lI L xs vh n p n2 p2 t g u w) {i1 : Int} (hi_1 : -2147483648 ≤ i1 ∧ i1 < 2147483648) {i2 : Int} (hi_2 : -2147483648 ≤ i2 ∧ i2 < 2147483648) : vm_Rp 4 91 45 [.ref 1, .int (vz i1), .int (vz i2)] vh (fun r v1 => ∃ (ua : D5u) (q : Int), ua.2.1 = u.2.1 ∧ (ua = u ∨ mv2 u.1 ua.1 n p u.2.1 u.2.2.1 u.2.2.2 ua.2.2.1 ua.2.2.2 p) ∧ lI L xs v1 n p n2 p2 t g ua w ∧ (0 ≤ q ∧ q ≤ 1) ∧ r = some (.int (vz q))) := by
  obtain ⟨θ, sc, ai, al, az, fo, ⟨⟨rfl, rfl⟩, ⟨rfl, rfl⟩, rfl, rfl⟩, hT, hM, hK, hI, hR, hS, hO, hU, hW⟩ := h
  refine (c45x hT hU.1 hU.2.1 hU.2.2 hi_1 hi_2).imp fun r v1 hq => ?_
  obtain ⟨q, V1, Kg, Fg, hk, hT1, h5, hO1, hC, hc, hb, rfl⟩ := hq
  refine ⟨(V1, u.2.1, Kg, Fg), q, rfl, ?_, lI_x (ua := (V1, u.2.1, Kg, Fg)) hk hT1 ⟨h5, hO1, hC⟩ hM hK hI hR hS hO hW, hb.1, rfl⟩
  rcases hc with ⟨e1, e2, e3⟩ | hc
  · exact Or.inl (by rw [e1, e2, e3])
  · exact Or.inr hc
theorem x47 {L : Nat} {xs : Nat → Int32} {vh : vm_H} {n p n2 p2 t : Int} {g : Int64} {u : D5u} {w : D5w} (h : lI L xs vh n p n2 p2 t g u w) {i1 : Int} (hi_1 : -2147483648 ≤ i1 ∧ i1 < 2147483648) {l_2 : Int64} {i3 : Int} (hi_3 : -2147483648 ≤ i3 ∧ i3 < 2147483648) : vm_Rp 3 79 47 [.ref 1, .int (vz i1), .long l_2, .int (vz i3)] vh (fun r v1 => ∃ (ua : D5u) (q : Int), (0 ≤ q ∧ q ≤ 1) ∧ tY n p u ua i1 l_2 i3 q ∧ lI L xs v1 n p n2 p2 t g ua w ∧ r = some (.int (vz q))) := by
  obtain ⟨θ, sc, ai, al, az, fo, ⟨⟨rfl, rfl⟩, ⟨rfl, rfl⟩, rfl, rfl⟩, hT, hM, hK, hI, hR, hS, hO, hU, hW⟩ := h
  refine (c47x hT hU.1 hU.2.1.1 hU.2.2 hi_1 hi_3).imp fun r v1 hq => ?_
  obtain ⟨q, hb, hk, hT1, hX, rfl⟩ := hq
  rcases hX with ⟨hk5, hc⟩ | ⟨x1, x2, x3, hk5, m, K, F, tt, hP, ha⟩
  · exact ⟨u, q, hb, Or.inl ⟨rfl, hc⟩, lI_x (ua := u) hk hT1 (cU_al hU hk5) hM hK hI hR hS hO hW, rfl⟩
  · refine ⟨uS u i1.toNat m K F, q, hb, Or.inr ⟨x1, x2, x3, m, K, F, tt, rfl, ha⟩, lI_x (ua := uS u i1.toNat m K F) hk hT1 ⟨(hk5 5 (by decide) (by omega) (by omega) (by omega)).trans hU.1, hU.2.1, fun i hi => ?_⟩ hM hK hI hR hS hO hW, rfl⟩
    show cP v1 i (if i = i1.toNat then m else u.2.1 i) (if i = i1.toNat then K else u.2.2.1 i) (if i = i1.toNat then F else u.2.2.2 i)
    by_cases e : i = i1.toNat
    · rw [if_pos e, if_pos e, if_pos e, e]; exact hP
    · rw [if_neg e, if_neg e, if_neg e]
      have h9 := hU.2.2 i hi
      exact ⟨h9.1, (hk5 _ (by omega) (by omega) (by omega) (by omega)).trans h9.2.1, (hk5 _ (by omega) (by omega) (by omega) (by omega)).trans h9.2.2.1, (hk5 _ (by omega) (by omega) (by omega) (by omega)).trans h9.2.2.2⟩
theorem y106 {L : Nat} {xs : Nat → Int32} {vh : vm_H} {n p n2 p2 t : Int} {g : Int64} {u : D5u} {w : D5w} (h : lI L xs vh n p n2 p2 t g u w) {i1 : Int} (hi_1 : -2147483648 ≤ i1 ∧ i1 < 2147483648) {i2 : Int} (hi_2 : -2147483648 ≤ i2 ∧ i2 < 2147483648) : vm_Rp 3 77 106 [.ref 238, .int (vz i1), .int (vz i2)] vh (fun r v1 => ∃ (t1 : Int) (wa : D5w) (q : Int), (∀ i, i < 16 → wa.1 i = w.1 i ∧ (wa.2 i).Perm (w.2 i)) ∧ lI L xs v1 n p n2 p2 t1 g u wa ∧ (0 ≤ q ∧ q ≤ 1) ∧ r = some (.int (vz q))) := by
  obtain ⟨θ, sc, ai, al, az, fo, ⟨⟨rfl, rfl⟩, ⟨rfl, rfl⟩, rfl, rfl⟩, hT, hM, hK, hI, hR, hS, hO, hU, hW⟩ := h
  refine (c106x hM hK hI hi_1 hi_2 hR).imp fun r v1 hq => ?_
  obtain ⟨⟨sc1, ai1, al1, az1, hM1, hK1, hI1, hF, hE, hc, hl⟩, q, hq, rfl⟩ := hq
  have h9 := lI_y hT hU hM1 hK1 hI1 hE hS hO rW_N
  rw [hF.1 1 rfl, hF.1 4 rfl] at h9
  refine ⟨_, _, q, fun i hi => ?_, h9, hq.1, rfl⟩
  have h1 := hW i hi
  refine ⟨(hc i).trans h1.1, ?_⟩
  show (ls (pr_ al1 (60 * i)) (ai1 242 i).toNat).Perm _
  have h2 := hl i hi
  unfold slp at h2
  rw [hc i, ← h1.2, ← h1.1]
  exact h2
theorem y107 {L : Nat} {xs : Nat → Int32} {vh : vm_H} {n p n2 p2 t : Int} {g : Int64} {u : D5u} {w : D5w} (h : lI L xs vh n p n2 p2 t g u w) : vm_Rp 0 0 107 [.ref 238] vh (fun r v1 => ∃ (p1 t1 : Int) (wa : D5w) (q : Int), ((p2 = 16 ∧ p1 = p2) ∨ (p2 ≠ 16 ∧ p1 = p2 + 1)) ∧ ((p2 = 16 ∧ ∀ i, i < 16 → wa.1 i = w.1 i ∧ wa.2 i = w.2 i) ∨ (p2 ≠ 16 ∧ wa.1 p2.toNat = 0 ∧ wa.2 p2.toNat = [] ∧ ∀ i, i < 16 → i ≠ p2.toNat → wa.1 i = w.1 i ∧ wa.2 i = w.2 i)) ∧ lI L xs v1 n p n2 p1 t1 g u wa ∧ ((p2 = 16 ∧ q = -1) ∨ (p2 ≠ 16 ∧ q = p2)) ∧ r = some (.int (vz q))) := by
  obtain ⟨θ, sc, ai, al, az, fo, ⟨⟨rfl, rfl⟩, ⟨rfl, rfl⟩, rfl, rfl⟩, hT, hM, hK, hI, hR, hS, hO, hU, hW⟩ := h
  refine (c107x hM hK hI hR).imp fun r v1 hq => ?_
  obtain ⟨⟨sc1, ai1, al1, az1, hM1, hK1, hI1, hF, hE, hc⟩, q, hq, rfl⟩ := hq
  have h9 := lI_y hT hU hM1 hK1 hI1 hE hS hO rW_N
  rw [hF.1 1 rfl] at h9
  refine ⟨_, _, _, q, ?_, ?_, h9, hq, rfl⟩
  · rcases hc with ⟨c1, c2, _⟩ | ⟨c1, c2, _⟩
    · exact Or.inl ⟨c1, c2⟩
    · exact Or.inr ⟨c1, c2⟩
  · rcases hc with ⟨c1, _, c3, c4⟩ | ⟨c1, _, c3⟩
    · refine Or.inl ⟨c1, fun i hi => ?_⟩
      rw [c3, c4]
      exact rW_e hW hi
    · refine Or.inr ⟨c1, c3, ?_, fun i hi hn => rW_at hW hK hF hi (by omega)⟩
      show ls (pr_ al1 (60 * (sc 4).toNat)) (ai1 242 (sc 4).toNat).toNat = []
      rw [c3]
      rfl
theorem y108 {L : Nat} {xs : Nat → Int32} {vh : vm_H} {n p n2 p2 t : Int} {g : Int64} {u : D5u} {w : D5w} (h : lI L xs vh n p n2 p2 t g u w) {i1 : Int} (hi_1 : -2147483648 ≤ i1 ∧ i1 < 2147483648) {l_2 : Int64} {i3 : Int} (hi_3 : -2147483648 ≤ i3 ∧ i3 < 2147483648) : vm_Rp 3 77 108 [.ref 238, .int (vz i1), .long l_2, .int (vz i3)] vh (fun r v1 => ∃ (t1 : Int) (wa : D5w) (q : Int), tZ n2 p2 w wa i1 l_2 i3 q ∧ lI L xs v1 n p n2 p2 t1 g u wa ∧ r = some (.int (vz q))) := by
  obtain ⟨θ, sc, ai, al, az, fo, ⟨⟨rfl, rfl⟩, ⟨rfl, rfl⟩, rfl, rfl⟩, hT, hM, hK, hI, hR, hS, hO, hU, hW⟩ := h
  have hb := hI.1.1
  refine (c108x hM hK hI hi_1 hi_3 hR).imp fun r v1 hq => ?_
  obtain ⟨sc1, ai1, al1, az1, hM1, hK1, hI1, hF, hE, q, hc, rfl⟩ := hq
  have h9 := lI_y hT hU hM1 hK1 hI1 hE hS hO rW_N
  rw [hF.1 1 rfl, hF.1 4 rfl] at h9
  refine ⟨_, _, q, ?_, h9, rfl⟩
  rcases hc with ⟨c1, c2, c3, c4⟩ | ⟨c1, c2, tt, c3, c4⟩
  · refine Or.inl ⟨fun i hi => ?_, c1, c4⟩
    rw [c2, c3]
    exact rW_e hW hi
  · have hi : i1.toNat < 16 := by omega
    have e : (60 * i1).toNat = 60 * i1.toNat := by omega
    have h1 := hW i1.toNat hi
    rw [e] at c3 c4
    rw [h1.1] at c3 c4
    rw [h1.2] at c4
    exact Or.inr ⟨c1, c2, fun i hi2 hn => rW_at hW hK hF hi2 (by omega), _, _, tt, h1.2.symm, c3, c4⟩

theorem x46 {L : Nat} {xs : Nat → Int32} {vh : vm_H} {n p n2 p2 t : Int} {g : Int64} {u : D5u} {w : D5w} (h : lI L xs vh n p n2 p2 t g u w)  : vm_Rp 0 0 46 [.ref 1] vh (fun r v1 => (∃ n1 p1 : Int, (((p1 = p ∧ p = 16) ∨ (p1 = p + 1 ∧ p < 16)) ∧ n1 = n) ∧ lI L xs v1 n1 p1 n2 p2 t g u w) ∧ ∃ q : Int, ((q = -1 ∧ p = 16) ∨ (q = p ∧ p < 16)) ∧ r = some (.int (vz q))) := by
  obtain ⟨θ, sc, ai, al, az, fo, ⟨⟨rfl, rfl⟩, ⟨rfl, rfl⟩, rfl, rfl⟩, hT, hM, hK, hI, hR, hS, hO, hU, hW⟩ := h
  refine (c46 rfl (tc_fu hT) ).imp fun r v1 hq => ?_
  obtain ⟨⟨θ1, _, hr, hT1⟩, q, hq, rfl⟩ := hq
  exact ⟨⟨_, _, hr, lI_k hT1 hr.2 hU hM hK hI hR hS hO hW⟩, q, hq, rfl⟩
theorem x48 {L : Nat} {xs : Nat → Int32} {vh : vm_H} {n p n2 p2 t : Int} {g : Int64} {u : D5u} {w : D5w} (h : lI L xs vh n p n2 p2 t g u w) {i1 : Int} (hi_1 : -2147483648 ≤ i1 ∧ i1 < 2147483648) {i2 : Int} (hi_2 : 0 ≤ i2 ∧ i2 ≤ 1) : vm_Rp 2 43 48 [.ref 1, .int (vz i1), .int (vz i2)] vh (fun r v1 => (∃ n1 p1 : Int, (n1 = n ∧ p1 = p) ∧ lI L xs v1 n1 p1 n2 p2 t g u w) ∧ ∃ q : Int, ((0 ≤ q ∧ q ≤ 1)) ∧ r = some (.int (vz q))) := by
  obtain ⟨θ, sc, ai, al, az, fo, ⟨⟨rfl, rfl⟩, ⟨rfl, rfl⟩, rfl, rfl⟩, hT, hM, hK, hI, hR, hS, hO, hU, hW⟩ := h
  refine (c48 rfl (tc_fu hT) hi_1 hi_2).imp fun r v1 hq => ?_
  obtain ⟨⟨θ1, _, hr, hT1⟩, q, hq, rfl⟩ := hq
  exact ⟨⟨_, _, hr, lI_k hT1 hr.1 hU hM hK hI hR hS hO hW⟩, q, hq, rfl⟩
theorem x49 {L : Nat} {xs : Nat → Int32} {vh : vm_H} {n p n2 p2 t : Int} {g : Int64} {u : D5u} {w : D5w} (h : lI L xs vh n p n2 p2 t g u w)  : vm_Rp 6 160 49 [.ref 1] vh (fun r v1 => (∃ n1 p1 : Int, (n1 = n ∧ p1 = p) ∧ lI L xs v1 n1 p1 n2 p2 t g u w) ∧ ∃ q : Int, (-2147483648 ≤ q ∧ q < 2147483648) ∧ r = some (.int (vz q))) := by
  obtain ⟨θ, sc, ai, al, az, fo, ⟨⟨rfl, rfl⟩, ⟨rfl, rfl⟩, rfl, rfl⟩, hT, hM, hK, hI, hR, hS, hO, hU, hW⟩ := h
  refine (c49 rfl (tc_fu hT) ).imp fun r v1 hq => ?_
  obtain ⟨⟨θ1, _, hr, hT1⟩, q, hq, rfl⟩ := hq
  exact ⟨⟨_, _, hr, lI_k hT1 hr.1 hU hM hK hI hR hS hO hW⟩, q, hq, rfl⟩
theorem x50 {L : Nat} {xs : Nat → Int32} {vh : vm_H} {n p n2 p2 t : Int} {g : Int64} {u : D5u} {w : D5w} (h : lI L xs vh n p n2 p2 t g u w) {i1 : Int} (hi_1 : -2147483648 ≤ i1 ∧ i1 < 2147483648) : vm_Rp 4 115 50 [.ref 1, .int (vz i1)] vh (fun r v1 => (∃ n1 p1 : Int, (n1 = n ∧ p1 = p) ∧ lI L xs v1 n1 p1 n2 p2 t g u w) ∧ ∃ q : Int, (-2147483648 ≤ q ∧ q < 2147483648) ∧ r = some (.int (vz q))) := by
  obtain ⟨θ, sc, ai, al, az, fo, ⟨⟨rfl, rfl⟩, ⟨rfl, rfl⟩, rfl, rfl⟩, hT, hM, hK, hI, hR, hS, hO, hU, hW⟩ := h
  refine (c50 rfl (tc_fu hT) hi_1).imp fun r v1 hq => ?_
  obtain ⟨hT1, q, hq, rfl⟩ := hq
  exact ⟨⟨_, _, ⟨rfl, rfl⟩, lI_k hT1 rfl hU hM hK hI hR hS hO hW⟩, q, hq, rfl⟩
theorem x51 {L : Nat} {xs : Nat → Int32} {vh : vm_H} {n p n2 p2 t : Int} {g : Int64} {u : D5u} {w : D5w} (h : lI L xs vh n p n2 p2 t g u w) {i1 : Int} (hi_1 : -2147483648 ≤ i1 ∧ i1 < 2147483648) {i2 : Int} (hi_2 : -2147483648 ≤ i2 ∧ i2 < 2147483648) : vm_Rp 2 42 51 [.ref 1, .int (vz i1), .int (vz i2)] vh (fun r v1 => (∃ n1 p1 : Int, (n1 = n ∧ p1 = p) ∧ lI L xs v1 n1 p1 n2 p2 t g u w) ∧ ∃ q : Int, (-2147483648 ≤ q ∧ q < 2147483648) ∧ r = some (.int (vz q))) := by
  obtain ⟨θ, sc, ai, al, az, fo, ⟨⟨rfl, rfl⟩, ⟨rfl, rfl⟩, rfl, rfl⟩, hT, hM, hK, hI, hR, hS, hO, hU, hW⟩ := h
  refine (c51 rfl (tc_fu hT) hi_1 hi_2).imp fun r v1 hq => ?_
  obtain ⟨rfl, q, hq, rfl⟩ := hq
  exact ⟨⟨_, _, ⟨rfl, rfl⟩, lI_k (tc_fu hT) rfl hU hM hK hI hR hS hO hW⟩, q, hq, rfl⟩
theorem x52 {L : Nat} {xs : Nat → Int32} {vh : vm_H} {n p n2 p2 t : Int} {g : Int64} {u : D5u} {w : D5w} (h : lI L xs vh n p n2 p2 t g u w) {i1 : Int} (hi_1 : -2147483648 ≤ i1 ∧ i1 < 2147483648) : vm_Rp 1 22 52 [.ref 1, .int (vz i1)] vh (fun r v1 => (∃ n1 p1 : Int, (n1 = n ∧ p1 = p) ∧ lI L xs v1 n1 p1 n2 p2 t g u w) ∧ ∃ q : Int, (-2147483648 ≤ q ∧ q < 2147483648) ∧ r = some (.int (vz q))) := by
  obtain ⟨θ, sc, ai, al, az, fo, ⟨⟨rfl, rfl⟩, ⟨rfl, rfl⟩, rfl, rfl⟩, hT, hM, hK, hI, hR, hS, hO, hU, hW⟩ := h
  refine (c52 rfl (tc_fu hT) hi_1).imp fun r v1 hq => ?_
  obtain ⟨rfl, q, hq, rfl⟩ := hq
  exact ⟨⟨_, _, ⟨rfl, rfl⟩, lI_k (tc_fu hT) rfl hU hM hK hI hR hS hO hW⟩, q, hq, rfl⟩
theorem x53 {L : Nat} {xs : Nat → Int32} {vh : vm_H} {n p n2 p2 t : Int} {g : Int64} {u : D5u} {w : D5w} (h : lI L xs vh n p n2 p2 t g u w) {i1 : Int} (hi_1 : -2147483648 ≤ i1 ∧ i1 < 2147483648) {i2 : Int} (hi_2 : -2147483648 ≤ i2 ∧ i2 < 2147483648) {i3 : Int} (hi_3 : -2147483648 ≤ i3 ∧ i3 < 2147483648) : vm_Rp 3 69 53 [.ref 1, .int (vz i1), .int (vz i2), .int (vz i3)] vh (fun r v1 => (∃ n1 p1 : Int, (n1 = n ∧ p1 = p) ∧ lI L xs v1 n1 p1 n2 p2 t g u w) ∧ ∃ q : Int64, r = some (.long q)) := by
  obtain ⟨θ, sc, ai, al, az, fo, ⟨⟨rfl, rfl⟩, ⟨rfl, rfl⟩, rfl, rfl⟩, hT, hM, hK, hI, hR, hS, hO, hU, hW⟩ := h
  refine (c53 rfl (tc_fu hT) hi_1 hi_2 hi_3).imp fun r v1 hq => ?_
  obtain ⟨hT1, q, rfl⟩ := hq
  exact ⟨⟨_, _, ⟨rfl, rfl⟩, lI_k hT1 rfl hU hM hK hI hR hS hO hW⟩, q, rfl⟩
theorem x54 {L : Nat} {xs : Nat → Int32} {vh : vm_H} {n p n2 p2 t : Int} {g : Int64} {u : D5u} {w : D5w} (h : lI L xs vh n p n2 p2 t g u w) {i1 : Int} (hi_1 : -2147483648 ≤ i1 ∧ i1 < 2147483648) {i2 : Int} (hi_2 : -2147483648 ≤ i2 ∧ i2 < 2147483648) {i3 : Int} (hi_3 : -2147483648 ≤ i3 ∧ i3 < 2147483648) : vm_Rp 3 69 54 [.ref 1, .int (vz i1), .int (vz i2), .int (vz i3)] vh (fun r v1 => (∃ n1 p1 : Int, (n1 = n ∧ p1 = p) ∧ lI L xs v1 n1 p1 n2 p2 t g u w) ∧ ∃ q : Int, (-2147483648 ≤ q ∧ q < 2147483648) ∧ r = some (.int (vz q))) := by
  obtain ⟨θ, sc, ai, al, az, fo, ⟨⟨rfl, rfl⟩, ⟨rfl, rfl⟩, rfl, rfl⟩, hT, hM, hK, hI, hR, hS, hO, hU, hW⟩ := h
  refine (c54 rfl (tc_fu hT) hi_1 hi_2 hi_3).imp fun r v1 hq => ?_
  obtain ⟨hT1, q, hq, rfl⟩ := hq
  exact ⟨⟨_, _, ⟨rfl, rfl⟩, lI_k hT1 rfl hU hM hK hI hR hS hO hW⟩, q, hq, rfl⟩
theorem x55 {L : Nat} {xs : Nat → Int32} {vh : vm_H} {n p n2 p2 t : Int} {g : Int64} {u : D5u} {w : D5w} (h : lI L xs vh n p n2 p2 t g u w) {i1 : Int} (hi_1 : -2147483648 ≤ i1 ∧ i1 < 2147483648) {l_2 : Int64} : vm_Rp 1 21 55 [.ref 1, .int (vz i1), .long l_2] vh (fun r v1 => (∃ n1 p1 : Int, (n1 = n ∧ p1 = p) ∧ lI L xs v1 n1 p1 n2 p2 t g u w) ∧ ∃ q : Int, ((0 ≤ q ∧ q ≤ 1) ∧ ((q = 0 ∧ (i1 < 0 ∨ n ≤ i1)) ∨ (q = 1 ∧ 0 ≤ i1 ∧ i1 < n))) ∧ r = some (.int (vz q))) := by
  obtain ⟨θ, sc, ai, al, az, fo, ⟨⟨rfl, rfl⟩, ⟨rfl, rfl⟩, rfl, rfl⟩, hT, hM, hK, hI, hR, hS, hO, hU, hW⟩ := h
  refine (c55 rfl (tc_fu hT) hi_1).imp fun r v1 hq => ?_
  obtain ⟨hT1, q, hq, rfl⟩ := hq
  exact ⟨⟨_, _, ⟨rfl, rfl⟩, lI_k hT1 rfl hU hM hK hI hR hS hO hW⟩, q, hq, rfl⟩
theorem x56 {L : Nat} {xs : Nat → Int32} {vh : vm_H} {n p n2 p2 t : Int} {g : Int64} {u : D5u} {w : D5w} (h : lI L xs vh n p n2 p2 t g u w) {i1 : Int} (hi_1 : -2147483648 ≤ i1 ∧ i1 < 2147483648) {i2 : Int} (hi_2 : -2147483648 ≤ i2 ∧ i2 < 2147483648) : vm_Rp 3 73 56 [.ref 1, .int (vz i1), .int (vz i2)] vh (fun r v1 => (∃ n1 p1 : Int, (n1 = n ∧ p1 = p) ∧ lI L xs v1 n1 p1 n2 p2 t g u w) ∧ ∃ q : Int64, r = some (.long q)) := by
  obtain ⟨θ, sc, ai, al, az, fo, ⟨⟨rfl, rfl⟩, ⟨rfl, rfl⟩, rfl, rfl⟩, hT, hM, hK, hI, hR, hS, hO, hU, hW⟩ := h
  refine (c56 rfl (tc_fu hT) hi_1 hi_2).imp fun r v1 hq => ?_
  obtain ⟨hT1, q, rfl⟩ := hq
  exact ⟨⟨_, _, ⟨rfl, rfl⟩, lI_k hT1 rfl hU hM hK hI hR hS hO hW⟩, q, rfl⟩
theorem x57 {L : Nat} {xs : Nat → Int32} {vh : vm_H} {n p n2 p2 t : Int} {g : Int64} {u : D5u} {w : D5w} (h : lI L xs vh n p n2 p2 t g u w) {i1 : Int} (hi_1 : -2147483648 ≤ i1 ∧ i1 < 2147483648) : vm_Rp 3 92 57 [.ref 1, .int (vz i1)] vh (fun r v1 => (∃ n1 p1 : Int, (n1 = n ∧ p1 = p) ∧ lI L xs v1 n1 p1 n2 p2 t g u w) ∧ ∃ q : Int64, r = some (.long q)) := by
  obtain ⟨θ, sc, ai, al, az, fo, ⟨⟨rfl, rfl⟩, ⟨rfl, rfl⟩, rfl, rfl⟩, hT, hM, hK, hI, hR, hS, hO, hU, hW⟩ := h
  refine (c57 rfl (tc_fu hT) hi_1).imp fun r v1 hq => ?_
  obtain ⟨hT1, q, rfl⟩ := hq
  exact ⟨⟨_, _, ⟨rfl, rfl⟩, lI_k hT1 rfl hU hM hK hI hR hS hO hW⟩, q, rfl⟩
theorem y105 {L : Nat} {xs : Nat → Int32} {vh : vm_H} {n p n2 p2 t : Int} {g : Int64} {u : D5u} {w : D5w} (h : lI L xs vh n p n2 p2 t g u w) {i1 : Int} (hi_1 : 0 ≤ i1 ∧ i1 ≤ 1) : vm_Rp 1 20 105 [.ref 238, .int (vz i1)] vh (fun r v1 => (∃ n1 p1 t1 : Int, (((n2 = 8 ∧ n1 = n2) ∨ (n2 ≠ 8 ∧ n1 = n2 + 1)) ∧ p1 = p2) ∧ lI L xs v1 n p n1 p1 t1 g u w) ∧ ∃ q : Int, ((n2 = 8 ∧ q = -1) ∨ (n2 ≠ 8 ∧ q = n2)) ∧ r = some (.int (vz q))) := by
  obtain ⟨θ, sc, ai, al, az, fo, ⟨⟨rfl, rfl⟩, ⟨rfl, rfl⟩, rfl, rfl⟩, hT, hM, hK, hI, hR, hS, hO, hU, hW⟩ := h
  refine (c105 hM hK hI hi_1 hR).imp fun r v1 hq => ?_
  obtain ⟨⟨sc1, ai1, al1, az1, hM1, hK1, hI1, hF, hE⟩, q, hq, rfl⟩ := hq
  exact ⟨⟨_, _, _, ⟨hE.2, hF.1 4 rfl⟩, lI_y hT hU hM1 hK1 hI1 hE.1 hS hO (rW_fr hW hK hF (by decide))⟩, q, hq, rfl⟩
theorem y109 {L : Nat} {xs : Nat → Int32} {vh : vm_H} {n p n2 p2 t : Int} {g : Int64} {u : D5u} {w : D5w} (h : lI L xs vh n p n2 p2 t g u w) {i1 : Int} (hi_1 : -2147483648 ≤ i1 ∧ i1 < 2147483648) {i2 : Int} (hi_2 : 0 ≤ i2 ∧ i2 ≤ 1) : vm_Rp 1 21 109 [.ref 238, .int (vz i1), .int (vz i2)] vh (fun r v1 => (∃ n1 p1 t1 : Int, (n1 = n2 ∧ p1 = p2) ∧ lI L xs v1 n p n1 p1 t1 g u w) ∧ ∃ q : Int, ((0 ≤ q ∧ q ≤ 1)) ∧ r = some (.int (vz q))) := by
  obtain ⟨θ, sc, ai, al, az, fo, ⟨⟨rfl, rfl⟩, ⟨rfl, rfl⟩, rfl, rfl⟩, hT, hM, hK, hI, hR, hS, hO, hU, hW⟩ := h
  refine (c109 hM hK hI hi_1 hi_2 hR).imp fun r v1 hq => ?_
  obtain ⟨⟨sc1, ai1, al1, az1, hM1, hK1, hI1, hF, hE⟩, q, hq, rfl⟩ := hq
  exact ⟨⟨_, _, _, ⟨hF.1 1 rfl, hF.1 4 rfl⟩, lI_y hT hU hM1 hK1 hI1 hE hS hO (rW_fr hW hK hF (by decide))⟩, q, hq, rfl⟩
theorem y102 {L : Nat} {xs : Nat → Int32} {vh : vm_H} {n p n2 p2 t : Int} {g : Int64} {u : D5u} {w : D5w} (h : lI L xs vh n p n2 p2 t g u w)  : vm_Rp 7 181 102 [.ref 238] vh (fun r v1 => (∃ n1 p1 t1 : Int, (n1 = n2 ∧ p1 = p2) ∧ lI L xs v1 n p n1 p1 t1 g u w) ∧ ∃ q : Int, (-1 ≤ q ∧ q ≤ 3) ∧ r = some (.int (vz q))) := by
  obtain ⟨θ, sc, ai, al, az, fo, ⟨⟨rfl, rfl⟩, ⟨rfl, rfl⟩, rfl, rfl⟩, hT, hM, hK, hI, hR, hS, hO, hU, hW⟩ := h
  refine (c102 hM hK hI  hR).imp fun r v1 hq => ?_
  obtain ⟨⟨sc1, ai1, al1, az1, hM1, hK1, hI1, hF, hE⟩, q, hq, rfl⟩ := hq
  exact ⟨⟨_, _, _, ⟨hF.1 1 rfl, hF.1 4 rfl⟩, lI_y hT hU hM1 hK1 hI1 hE hS hO (rW_fr hW hK hF (by decide))⟩, q, hq, rfl⟩
theorem y104 {L : Nat} {xs : Nat → Int32} {vh : vm_H} {n p n2 p2 t : Int} {g : Int64} {u : D5u} {w : D5w} (h : lI L xs vh n p n2 p2 t g u w) {i1 : Int} (hi_1 : -2147483648 ≤ i1 ∧ i1 < 2147483648) : vm_Rp 6 157 104 [.ref 238, .int (vz i1)] vh (fun r v1 => (∃ n1 p1 t1 : Int, (n1 = n2 ∧ p1 = p2) ∧ lI L xs v1 n p n1 p1 t1 g u w) ∧ ∃ q : Int, (-1 ≤ q ∧ q ≤ 2) ∧ r = some (.int (vz q))) := by
  obtain ⟨θ, sc, ai, al, az, fo, ⟨⟨rfl, rfl⟩, ⟨rfl, rfl⟩, rfl, rfl⟩, hT, hM, hK, hI, hR, hS, hO, hU, hW⟩ := h
  refine (c104 hM hK hI hi_1 hR).imp fun r v1 hq => ?_
  obtain ⟨⟨sc1, ai1, al1, az1, hM1, hK1, hI1, hF, hE⟩, q, hq, rfl⟩ := hq
  exact ⟨⟨_, _, _, ⟨hF.1 1 rfl, hF.1 4 rfl⟩, lI_y hT hU hM1 hK1 hI1 hE hS hO (rW_fr hW hK hF (by decide))⟩, q, hq, rfl⟩
theorem y112 {L : Nat} {xs : Nat → Int32} {vh : vm_H} {n p n2 p2 t : Int} {g : Int64} {u : D5u} {w : D5w} (h : lI L xs vh n p n2 p2 t g u w) {i1 : Int} (hi_1 : -2147483648 ≤ i1 ∧ i1 < 2147483648) {i2 : Int} (hi_2 : -2147483648 ≤ i2 ∧ i2 < 2147483648) : vm_Rp 4 90 112 [.ref 238, .int (vz i1), .int (vz i2)] vh (fun r v1 => (∃ n1 p1 t1 : Int, (n1 = n2 ∧ p1 = p2) ∧ lI L xs v1 n p n1 p1 t1 g u w) ∧ ∃ q : Int, (-2147483648 ≤ q ∧ q < 2147483648) ∧ r = some (.int (vz q))) := by
  obtain ⟨θ, sc, ai, al, az, fo, ⟨⟨rfl, rfl⟩, ⟨rfl, rfl⟩, rfl, rfl⟩, hT, hM, hK, hI, hR, hS, hO, hU, hW⟩ := h
  refine (c112 hM hK hI hi_1 hi_2 hR).imp fun r v1 hq => ?_
  obtain ⟨⟨sc1, ai1, al1, az1, hM1, hK1, hI1, hF, hE⟩, q, hq, rfl⟩ := hq
  exact ⟨⟨_, _, _, ⟨hF.1 1 rfl, hF.1 4 rfl⟩, lI_y hT hU hM1 hK1 hI1 hE hS hO (rW_fr hW hK hF (by decide))⟩, q, hq, rfl⟩
theorem y113 {L : Nat} {xs : Nat → Int32} {vh : vm_H} {n p n2 p2 t : Int} {g : Int64} {u : D5u} {w : D5w} (h : lI L xs vh n p n2 p2 t g u w) {i1 : Int} (hi_1 : -2147483648 ≤ i1 ∧ i1 < 2147483648) : vm_Rp 0 0 113 [.ref 238, .int (vz i1)] vh (fun r v1 => (∃ n1 p1 t1 : Int, (n1 = n2 ∧ p1 = p2) ∧ lI L xs v1 n p n1 p1 t1 g u w) ∧ ∃ q : Int, (-2147483648 ≤ q ∧ q < 2147483648) ∧ r = some (.int (vz q))) := by
  obtain ⟨θ, sc, ai, al, az, fo, ⟨⟨rfl, rfl⟩, ⟨rfl, rfl⟩, rfl, rfl⟩, hT, hM, hK, hI, hR, hS, hO, hU, hW⟩ := h
  refine (c113 hM hK hI hi_1 hR).imp fun r v1 hq => ?_
  obtain ⟨⟨sc1, ai1, al1, az1, hM1, hK1, hI1, hF, hE⟩, q, hq, rfl⟩ := hq
  exact ⟨⟨_, _, _, ⟨hF.1 1 rfl, hF.1 4 rfl⟩, lI_y hT hU hM1 hK1 hI1 hE hS hO (rW_fr hW hK hF (by decide))⟩, q, hq, rfl⟩
theorem y115 {L : Nat} {xs : Nat → Int32} {vh : vm_H} {n p n2 p2 t : Int} {g : Int64} {u : D5u} {w : D5w} (h : lI L xs vh n p n2 p2 t g u w) {i1 : Int} (hi_1 : -2147483648 ≤ i1 ∧ i1 < 2147483648) {i2 : Int} (hi_2 : -2147483648 ≤ i2 ∧ i2 < 2147483648) {i3 : Int} (hi_3 : -2147483648 ≤ i3 ∧ i3 < 2147483648) : vm_Rp 5 112 115 [.ref 238, .int (vz i1), .int (vz i2), .int (vz i3)] vh (fun r v1 => (∃ n1 p1 t1 : Int, (n1 = n2 ∧ p1 = p2) ∧ lI L xs v1 n p n1 p1 t1 g u w) ∧ ∃ q : Int64, r = some (.long q)) := by
  obtain ⟨θ, sc, ai, al, az, fo, ⟨⟨rfl, rfl⟩, ⟨rfl, rfl⟩, rfl, rfl⟩, hT, hM, hK, hI, hR, hS, hO, hU, hW⟩ := h
  refine (c115 hM hK hI hi_1 hi_2 hi_3 hR).imp fun r v1 hq => ?_
  obtain ⟨⟨sc1, ai1, al1, az1, hM1, hK1, hI1, hF, hE⟩, q, rfl⟩ := hq
  exact ⟨⟨_, _, _, ⟨hF.1 1 rfl, hF.1 4 rfl⟩, lI_y hT hU hM1 hK1 hI1 hE hS hO (rW_fr hW hK hF (by decide))⟩, q, rfl⟩
theorem y116 {L : Nat} {xs : Nat → Int32} {vh : vm_H} {n p n2 p2 t : Int} {g : Int64} {u : D5u} {w : D5w} (h : lI L xs vh n p n2 p2 t g u w) {i1 : Int} (hi_1 : -2147483648 ≤ i1 ∧ i1 < 2147483648) {i2 : Int} (hi_2 : -2147483648 ≤ i2 ∧ i2 < 2147483648) {i3 : Int} (hi_3 : -2147483648 ≤ i3 ∧ i3 < 2147483648) : vm_Rp 5 112 116 [.ref 238, .int (vz i1), .int (vz i2), .int (vz i3)] vh (fun r v1 => (∃ n1 p1 t1 : Int, (n1 = n2 ∧ p1 = p2) ∧ lI L xs v1 n p n1 p1 t1 g u w) ∧ ∃ q : Int, (-2147483648 ≤ q ∧ q < 2147483648) ∧ r = some (.int (vz q))) := by
  obtain ⟨θ, sc, ai, al, az, fo, ⟨⟨rfl, rfl⟩, ⟨rfl, rfl⟩, rfl, rfl⟩, hT, hM, hK, hI, hR, hS, hO, hU, hW⟩ := h
  refine (c116 hM hK hI hi_1 hi_2 hi_3 hR).imp fun r v1 hq => ?_
  obtain ⟨⟨sc1, ai1, al1, az1, hM1, hK1, hI1, hF, hE⟩, q, hq, rfl⟩ := hq
  exact ⟨⟨_, _, _, ⟨hF.1 1 rfl, hF.1 4 rfl⟩, lI_y hT hU hM1 hK1 hI1 hE hS hO (rW_fr hW hK hF (by decide))⟩, q, hq, rfl⟩
theorem y117 {L : Nat} {xs : Nat → Int32} {vh : vm_H} {n p n2 p2 t : Int} {g : Int64} {u : D5u} {w : D5w} (h : lI L xs vh n p n2 p2 t g u w) {i1 : Int} (hi_1 : -2147483648 ≤ i1 ∧ i1 < 2147483648) {l_2 : Int64} : vm_Rp 0 0 117 [.ref 238, .int (vz i1), .long l_2] vh (fun r v1 => (∃ n1 p1 t1 : Int, (n1 = n2 ∧ p1 = p2) ∧ lI L xs v1 n p n1 p1 t1 g u w) ∧ ∃ q : Int, ((0 ≤ q ∧ q ≤ 1) ∧ (q = 1 ↔ (0 ≤ i1 ∧ i1 < n2))) ∧ r = some (.int (vz q))) := by
  obtain ⟨θ, sc, ai, al, az, fo, ⟨⟨rfl, rfl⟩, ⟨rfl, rfl⟩, rfl, rfl⟩, hT, hM, hK, hI, hR, hS, hO, hU, hW⟩ := h
  refine (c117 hM hK hI hi_1 hR).imp fun r v1 hq => ?_
  obtain ⟨⟨sc1, ai1, al1, az1, hM1, hK1, hI1, hF, hE⟩, q, hq, rfl⟩ := hq
  exact ⟨⟨_, _, _, ⟨hF.1 1 rfl, hF.1 4 rfl⟩, lI_y hT hU hM1 hK1 hI1 hE hS hO (rW_fr hW hK hF (by decide))⟩, q, hq, rfl⟩
theorem y120 {L : Nat} {xs : Nat → Int32} {vh : vm_H} {n p n2 p2 t : Int} {g : Int64} {u : D5u} {w : D5w} (h : lI L xs vh n p n2 p2 t g u w) {i1 : Int} (hi_1 : -2147483648 ≤ i1 ∧ i1 < 2147483648) {i2 : Int} (hi_2 : -2147483648 ≤ i2 ∧ i2 < 2147483648) : vm_Rp 5 112 120 [.ref 238, .int (vz i1), .int (vz i2)] vh (fun r v1 => (∃ n1 p1 t1 : Int, (n1 = n2 ∧ p1 = p2) ∧ lI L xs v1 n p n1 p1 t1 g u w) ∧ ∃ q : Int64, r = some (.long q)) := by
  obtain ⟨θ, sc, ai, al, az, fo, ⟨⟨rfl, rfl⟩, ⟨rfl, rfl⟩, rfl, rfl⟩, hT, hM, hK, hI, hR, hS, hO, hU, hW⟩ := h
  refine (c120 hM hK hI hi_1 hi_2 hR).imp fun r v1 hq => ?_
  obtain ⟨⟨sc1, ai1, al1, az1, hM1, hK1, hI1, hF, hE⟩, q, rfl⟩ := hq
  exact ⟨⟨_, _, _, ⟨hF.1 1 rfl, hF.1 4 rfl⟩, lI_y hT hU hM1 hK1 hI1 hE hS hO (rW_fr hW hK hF (by decide))⟩, q, rfl⟩
theorem y121 {L : Nat} {xs : Nat → Int32} {vh : vm_H} {n p n2 p2 t : Int} {g : Int64} {u : D5u} {w : D5w} (h : lI L xs vh n p n2 p2 t g u w) {i1 : Int} (hi_1 : -2147483648 ≤ i1 ∧ i1 < 2147483648) : vm_Rp 5 112 121 [.ref 238, .int (vz i1)] vh (fun r v1 => (∃ n1 p1 t1 : Int, (n1 = n2 ∧ p1 = p2) ∧ lI L xs v1 n p n1 p1 t1 g u w) ∧ ∃ q : Int64, r = some (.long q)) := by
  obtain ⟨θ, sc, ai, al, az, fo, ⟨⟨rfl, rfl⟩, ⟨rfl, rfl⟩, rfl, rfl⟩, hT, hM, hK, hI, hR, hS, hO, hU, hW⟩ := h
  refine (c121 hM hK hI hi_1 hR).imp fun r v1 hq => ?_
  obtain ⟨⟨sc1, ai1, al1, az1, hM1, hK1, hI1, hF, hE⟩, q, rfl⟩ := hq
  exact ⟨⟨_, _, _, ⟨hF.1 1 rfl, hF.1 4 rfl⟩, lI_y hT hU hM1 hK1 hI1 hE hS hO (rW_fr hW hK hF (by decide))⟩, q, rfl⟩
