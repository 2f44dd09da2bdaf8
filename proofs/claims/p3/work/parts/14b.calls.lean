theorem e122_0 : vm_ent 122 0 = some (.aload_n 0, 0, 0, 0) := by decide +kernel
theorem e122_1 : vm_ent 122 1 = some (.lload_n 3, 0, 0, 0) := by decide +kernel
theorem e122_2 : vm_ent 122 2 = some (.lconst 0, 0, 0, 0) := by decide +kernel
theorem e122_3 : vm_ent 122 3 = some (.lcmp, 0, 0, 0) := by decide +kernel
theorem e122_4 : vm_ent 122 4 = some (.ifCond .ne 7, 11, 0, 0) := by decide +kernel
theorem e122_7 : vm_ent 122 7 = some (.iconst 1, 0, 0, 0) := by decide +kernel
theorem e122_8 : vm_ent 122 8 = some (.goto 4, 12, 0, 0) := by decide +kernel
theorem e122_11 : vm_ent 122 11 = some (.iconst 0, 0, 0, 0) := by decide +kernel
theorem e122_12 : vm_ent 122 12 = some (.putfield 84, 6, 0, 634) := by decide +kernel
theorem e122_15 : vm_ent 122 15 = some (.aload_n 0, 0, 0, 0) := by decide +kernel
theorem e122_16 : vm_ent 122 16 = some (.getfield 84, 6, 0, 634) := by decide +kernel
theorem e122_19 : vm_ent 122 19 = some (.ifCond .le 7, 26, 0, 0) := by decide +kernel
theorem e122_22 : vm_ent 122 22 = some (.lconst 0, 0, 0, 0) := by decide +kernel
theorem e122_23 : vm_ent 122 23 = some (.goto 9, 32, 0, 0) := by decide +kernel
theorem e122_26 : vm_ent 122 26 = some (.lload_n 1, 0, 0, 0) := by decide +kernel
theorem e122_27 : vm_ent 122 27 = some (.bipush 32, 0, 0, 0) := by decide +kernel
theorem e122_29 : vm_ent 122 29 = some (.lshl, 0, 0, 0) := by decide +kernel
theorem e122_30 : vm_ent 122 30 = some (.lload_n 3, 0, 0, 0) := by decide +kernel
theorem e122_31 : vm_ent 122 31 = some (.ldiv, 0, 0, 0) := by decide +kernel
theorem e122_32 : vm_ent 122 32 = some (.lreturn, 0, 0, 0) := by decide +kernel
theorem c122n {sc : Nat → Int} {ai : Nat → Nat → Int} {al : Nat → Nat → Int64} {az : Nat → Nat → Int32} {v0 vh : vm_H} (hM : tm sc ai al az v0 vh) (a b : Int64) (hb0 : ¬ b = 0) : vm_Rp 0 0 122 [.ref 238, .long a, .long b] vh (fun q v1 => tm (u1 sc 0 0) ai al az v0 v1 ∧ q = some (.long (a <<< (Int32.toInt64 (Int8.ofInt 32).toInt32 &&& 63) / b))) := by
  refine w_in (m := 0) ?_
  show vm_Wp _ _ _ 0 [some (.ref 238), some (.long a), none, some (.long b), none] [] _ _
  refine w_ldA e122_0 (fun _ => rfl) rfl ?_
  refine w_ldL e122_1 (fun _ => rfl) rfl ?_
  refine w_x e122_2 (fun _ => rfl) ?_
  refine w_lcmp e122_3 (fun q hq h1 h2 => ?_)
  refine w_if e122_4 (by omega) (fun (h : q ≠ 0) => ?_) (fun (h : q = 0) => absurd (h1.mp h) hb0)
  refine w_kI e122_11 ?_
  refine w_put e122_12 (tm_o hM) (Nat.le_of_ble_eq_true rfl) rfl (fun v1 b1 hc => ?_)
  have hM1 := tm_ps 0 hM (q := 0) (by omega) b1 hc
  refine w_ldA e122_15 (fun _ => rfl) rfl ?_
  refine w_get e122_16 (tm_o hM1) rfl ?_
  show vm_Wp _ _ _ 19 _ [.int (vz 0)] _ _
  refine w_if e122_19 (by omega) (fun _ => ?_) (fun (h : (0 : Int) < 0) => absurd h (by decide))
  refine w_ldL e122_26 (fun _ => rfl) rfl ?_
  refine w_x e122_27 (fun _ => rfl) ?_
  refine w_x e122_29 (fun _ => rfl) ?_
  refine w_ldL e122_30 (fun _ => rfl) rfl ?_
  refine w_div e122_31 hb0 ?_
  exact w_rl e122_32 rfl ⟨hM1, rfl⟩
theorem c122z {sc : Nat → Int} {ai : Nat → Nat → Int} {al : Nat → Nat → Int64} {az : Nat → Nat → Int32} {v0 vh : vm_H} (hM : tm sc ai al az v0 vh) (a b : Int64) (hb0 : b = 0) : vm_Rp 0 0 122 [.ref 238, .long a, .long b] vh (fun q v1 => tm (u1 sc 0 1) ai al az v0 v1 ∧ ∃ l : Int64, q = some (.long l)) := by
  refine w_in (m := 0) ?_
  show vm_Wp _ _ _ 0 [some (.ref 238), some (.long a), none, some (.long b), none] [] _ _
  refine w_ldA e122_0 (fun _ => rfl) rfl ?_
  refine w_ldL e122_1 (fun _ => rfl) rfl ?_
  refine w_x e122_2 (fun _ => rfl) ?_
  refine w_lcmp e122_3 (fun q hq h1 h2 => ?_)
  refine w_if e122_4 (by omega) (fun (h : q ≠ 0) => absurd (h1.mpr hb0) h) (fun (h : q = 0) => ?_)
  refine w_kI e122_7 ?_
  refine w_x e122_8 (fun _ => rfl) ?_
  refine w_put e122_12 (tm_o hM) (Nat.le_of_ble_eq_true rfl) rfl (fun v1 b1 hc => ?_)
  have hM1 := tm_ps 0 hM (q := 1) (by omega) b1 hc
  refine w_ldA e122_15 (fun _ => rfl) rfl ?_
  refine w_get e122_16 (tm_o hM1) rfl ?_
  show vm_Wp _ _ _ 19 _ [.int (vz 1)] _ _
  refine w_if e122_19 (by omega) (fun (h : (1 : Int) ≤ 0) => absurd h (by decide)) (fun _ => ?_)
  refine w_x e122_22 (fun _ => rfl) ?_
  refine w_x e122_23 (fun _ => rfl) ?_
  exact w_rl e122_32 rfl ⟨hM1, _, rfl⟩
theorem y122n {L : Nat} {xs : Nat → Int32} {vh : vm_H} {n p n2 p2 t : Int} {g : Int64} (h : lI L xs vh n p n2 p2 t g) (a b : Int64) (hb0 : ¬ b = 0) : vm_Rp 0 0 122 [.ref 238, .long a, .long b] vh (fun r v1 => lI L xs v1 n p n2 p2 0 g ∧ r = some (.long (a <<< (Int32.toInt64 (Int8.ofInt 32).toInt32 &&& 63) / b))) := by
  obtain ⟨θ, sc, ai, al, az, fo, ⟨⟨rfl, rfl⟩, ⟨rfl, rfl⟩, rfl, rfl⟩, hT, hM, hK, hI, hR, hS, hO⟩ := h
  refine (c122n hM a b hb0).imp fun r v1 hq => ?_
  exact ⟨lI_y hT hq.1 hK (gi_s hI rfl (by decide) (by decide) (by decide)) (ri2_fr hR hK (fr_s (X := [0]) (Y := []) (lo := 1) (hi := 0) (fr_0 _ _ _ _ sc ai al az) rfl rfl) rfl rfl rfl rfl rfl rfl rfl rfl rfl (by omega)) hS hO, hq.2⟩
theorem y122z {L : Nat} {xs : Nat → Int32} {vh : vm_H} {n p n2 p2 t : Int} {g : Int64} (h : lI L xs vh n p n2 p2 t g) (a b : Int64) (hb0 : b = 0) : vm_Rp 0 0 122 [.ref 238, .long a, .long b] vh (fun r v1 => lI L xs v1 n p n2 p2 1 g ∧ ∃ l : Int64, r = some (.long l)) := by
  obtain ⟨θ, sc, ai, al, az, fo, ⟨⟨rfl, rfl⟩, ⟨rfl, rfl⟩, rfl, rfl⟩, hT, hM, hK, hI, hR, hS, hO⟩ := h
  refine (c122z hM a b hb0).imp fun r v1 hq => ?_
  exact ⟨lI_y hT hq.1 hK (gi_s hI rfl (by decide) (by decide) (by decide)) (ri2_fr hR hK (fr_s (X := [0]) (Y := []) (lo := 1) (hi := 0) (fr_0 _ _ _ _ sc ai al az) rfl rfl) rfl rfl rfl rfl rfl rfl rfl rfl rfl (by omega)) hS hO, hq.2⟩

theorem x44 {L : Nat} {xs : Nat → Int32} {vh : vm_H} {n p n2 p2 t : Int} {g : Int64} (h : lI L xs vh n p n2 p2 t g) {i1 : Int} (hi_1 : 0 ≤ i1 ∧ i1 ≤ 1) : vm_Rp 2 43 44 [.ref 1, .int (vz i1)] vh (fun r v1 => (∃ n1 p1 : Int, (((n1 = n ∧ n = 8) ∨ (n1 = n + 1 ∧ n < 8)) ∧ p1 = p) ∧ lI L xs v1 n1 p1 n2 p2 t g) ∧ ∃ q : Int, ((q = -1 ∧ n = 8) ∨ (q = n ∧ n < 8)) ∧ r = some (.int (vz q))) := by
  obtain ⟨θ, sc, ai, al, az, fo, ⟨⟨rfl, rfl⟩, ⟨rfl, rfl⟩, rfl, rfl⟩, hT, hM, hK, hI, hR, hS, hO⟩ := h
  refine (c44 rfl hT hi_1).imp fun r v1 hq => ?_
  obtain ⟨⟨θ1, _, hr, hT1⟩, q, hq, rfl⟩ := hq
  exact ⟨⟨_, _, hr, lI_x hT1 hM hK hI hR hS hO⟩, q, hq, rfl⟩
theorem x45 {L : Nat} {xs : Nat → Int32} {vh : vm_H} {n p n2 p2 t : Int} {g : Int64} (h : lI L xs vh n p n2 p2 t g) {i1 : Int} (hi_1 : -2147483648 ≤ i1 ∧ i1 < 2147483648) {i2 : Int} (hi_2 : -2147483648 ≤ i2 ∧ i2 < 2147483648) : vm_Rp 4 91 45 [.ref 1, .int (vz i1), .int (vz i2)] vh (fun r v1 => (∃ n1 p1 : Int, (n1 = n ∧ p1 = p) ∧ lI L xs v1 n1 p1 n2 p2 t g) ∧ ∃ q : Int, ((0 ≤ q ∧ q ≤ 1) ∧ ((q = 0 ∧ (i1 < 0 ∨ n ≤ i1 ∨ i2 < 0 ∨ n ≤ i2)) ∨ (q = 1 ∧ 0 ≤ i1 ∧ i1 < n ∧ 0 ≤ i2 ∧ i2 < n))) ∧ r = some (.int (vz q))) := by
  obtain ⟨θ, sc, ai, al, az, fo, ⟨⟨rfl, rfl⟩, ⟨rfl, rfl⟩, rfl, rfl⟩, hT, hM, hK, hI, hR, hS, hO⟩ := h
  refine (c45 rfl hT hi_1 hi_2).imp fun r v1 hq => ?_
  obtain ⟨hT1, q, hq, rfl⟩ := hq
  exact ⟨⟨_, _, ⟨rfl, rfl⟩, lI_x hT1 hM hK hI hR hS hO⟩, q, hq, rfl⟩
theorem x46 {L : Nat} {xs : Nat → Int32} {vh : vm_H} {n p n2 p2 t : Int} {g : Int64} (h : lI L xs vh n p n2 p2 t g)  : vm_Rp 0 0 46 [.ref 1] vh (fun r v1 => (∃ n1 p1 : Int, (((p1 = p ∧ p = 16) ∨ (p1 = p + 1 ∧ p < 16)) ∧ n1 = n) ∧ lI L xs v1 n1 p1 n2 p2 t g) ∧ ∃ q : Int, ((q = -1 ∧ p = 16) ∨ (q = p ∧ p < 16)) ∧ r = some (.int (vz q))) := by
  obtain ⟨θ, sc, ai, al, az, fo, ⟨⟨rfl, rfl⟩, ⟨rfl, rfl⟩, rfl, rfl⟩, hT, hM, hK, hI, hR, hS, hO⟩ := h
  refine (c46 rfl hT ).imp fun r v1 hq => ?_
  obtain ⟨⟨θ1, _, hr, hT1⟩, q, hq, rfl⟩ := hq
  exact ⟨⟨_, _, hr, lI_x hT1 hM hK hI hR hS hO⟩, q, hq, rfl⟩
theorem x47 {L : Nat} {xs : Nat → Int32} {vh : vm_H} {n p n2 p2 t : Int} {g : Int64} (h : lI L xs vh n p n2 p2 t g) {i1 : Int} (hi_1 : -2147483648 ≤ i1 ∧ i1 < 2147483648) {l_2 : Int64} {i3 : Int} (hi_3 : -2147483648 ≤ i3 ∧ i3 < 2147483648) : vm_Rp 3 79 47 [.ref 1, .int (vz i1), .long l_2, .int (vz i3)] vh (fun r v1 => (∃ n1 p1 : Int, (n1 = n ∧ p1 = p) ∧ lI L xs v1 n1 p1 n2 p2 t g) ∧ ∃ q : Int, ((0 ≤ q ∧ q ≤ 1)) ∧ r = some (.int (vz q))) := by
  obtain ⟨θ, sc, ai, al, az, fo, ⟨⟨rfl, rfl⟩, ⟨rfl, rfl⟩, rfl, rfl⟩, hT, hM, hK, hI, hR, hS, hO⟩ := h
  refine (c47 rfl hT hi_1 hi_3).imp fun r v1 hq => ?_
  obtain ⟨hT1, q, hq, rfl⟩ := hq
  exact ⟨⟨_, _, ⟨rfl, rfl⟩, lI_x hT1 hM hK hI hR hS hO⟩, q, hq, rfl⟩
theorem x48 {L : Nat} {xs : Nat → Int32} {vh : vm_H} {n p n2 p2 t : Int} {g : Int64} (h : lI L xs vh n p n2 p2 t g) {i1 : Int} (hi_1 : -2147483648 ≤ i1 ∧ i1 < 2147483648) {i2 : Int} (hi_2 : 0 ≤ i2 ∧ i2 ≤ 1) : vm_Rp 2 43 48 [.ref 1, .int (vz i1), .int (vz i2)] vh (fun r v1 => (∃ n1 p1 : Int, (n1 = n ∧ p1 = p) ∧ lI L xs v1 n1 p1 n2 p2 t g) ∧ ∃ q : Int, ((0 ≤ q ∧ q ≤ 1)) ∧ r = some (.int (vz q))) := by
  obtain ⟨θ, sc, ai, al, az, fo, ⟨⟨rfl, rfl⟩, ⟨rfl, rfl⟩, rfl, rfl⟩, hT, hM, hK, hI, hR, hS, hO⟩ := h
  refine (c48 rfl hT hi_1 hi_2).imp fun r v1 hq => ?_
  obtain ⟨⟨θ1, _, hr, hT1⟩, q, hq, rfl⟩ := hq
  exact ⟨⟨_, _, hr, lI_x hT1 hM hK hI hR hS hO⟩, q, hq, rfl⟩
theorem x49 {L : Nat} {xs : Nat → Int32} {vh : vm_H} {n p n2 p2 t : Int} {g : Int64} (h : lI L xs vh n p n2 p2 t g)  : vm_Rp 6 160 49 [.ref 1] vh (fun r v1 => (∃ n1 p1 : Int, (n1 = n ∧ p1 = p) ∧ lI L xs v1 n1 p1 n2 p2 t g) ∧ ∃ q : Int, (-2147483648 ≤ q ∧ q < 2147483648) ∧ r = some (.int (vz q))) := by
  obtain ⟨θ, sc, ai, al, az, fo, ⟨⟨rfl, rfl⟩, ⟨rfl, rfl⟩, rfl, rfl⟩, hT, hM, hK, hI, hR, hS, hO⟩ := h
  refine (c49 rfl hT ).imp fun r v1 hq => ?_
  obtain ⟨⟨θ1, _, hr, hT1⟩, q, hq, rfl⟩ := hq
  exact ⟨⟨_, _, hr, lI_x hT1 hM hK hI hR hS hO⟩, q, hq, rfl⟩
theorem x50 {L : Nat} {xs : Nat → Int32} {vh : vm_H} {n p n2 p2 t : Int} {g : Int64} (h : lI L xs vh n p n2 p2 t g) {i1 : Int} (hi_1 : -2147483648 ≤ i1 ∧ i1 < 2147483648) : vm_Rp 4 115 50 [.ref 1, .int (vz i1)] vh (fun r v1 => (∃ n1 p1 : Int, (n1 = n ∧ p1 = p) ∧ lI L xs v1 n1 p1 n2 p2 t g) ∧ ∃ q : Int, (-2147483648 ≤ q ∧ q < 2147483648) ∧ r = some (.int (vz q))) := by
  obtain ⟨θ, sc, ai, al, az, fo, ⟨⟨rfl, rfl⟩, ⟨rfl, rfl⟩, rfl, rfl⟩, hT, hM, hK, hI, hR, hS, hO⟩ := h
  refine (c50 rfl hT hi_1).imp fun r v1 hq => ?_
  obtain ⟨hT1, q, hq, rfl⟩ := hq
  exact ⟨⟨_, _, ⟨rfl, rfl⟩, lI_x hT1 hM hK hI hR hS hO⟩, q, hq, rfl⟩
theorem x51 {L : Nat} {xs : Nat → Int32} {vh : vm_H} {n p n2 p2 t : Int} {g : Int64} (h : lI L xs vh n p n2 p2 t g) {i1 : Int} (hi_1 : -2147483648 ≤ i1 ∧ i1 < 2147483648) {i2 : Int} (hi_2 : -2147483648 ≤ i2 ∧ i2 < 2147483648) : vm_Rp 2 42 51 [.ref 1, .int (vz i1), .int (vz i2)] vh (fun r v1 => (∃ n1 p1 : Int, (n1 = n ∧ p1 = p) ∧ lI L xs v1 n1 p1 n2 p2 t g) ∧ ∃ q : Int, (-2147483648 ≤ q ∧ q < 2147483648) ∧ r = some (.int (vz q))) := by
  obtain ⟨θ, sc, ai, al, az, fo, ⟨⟨rfl, rfl⟩, ⟨rfl, rfl⟩, rfl, rfl⟩, hT, hM, hK, hI, hR, hS, hO⟩ := h
  refine (c51 rfl hT hi_1 hi_2).imp fun r v1 hq => ?_
  obtain ⟨rfl, q, hq, rfl⟩ := hq
  exact ⟨⟨_, _, ⟨rfl, rfl⟩, lI_x hT hM hK hI hR hS hO⟩, q, hq, rfl⟩
theorem x52 {L : Nat} {xs : Nat → Int32} {vh : vm_H} {n p n2 p2 t : Int} {g : Int64} (h : lI L xs vh n p n2 p2 t g) {i1 : Int} (hi_1 : -2147483648 ≤ i1 ∧ i1 < 2147483648) : vm_Rp 1 22 52 [.ref 1, .int (vz i1)] vh (fun r v1 => (∃ n1 p1 : Int, (n1 = n ∧ p1 = p) ∧ lI L xs v1 n1 p1 n2 p2 t g) ∧ ∃ q : Int, (-2147483648 ≤ q ∧ q < 2147483648) ∧ r = some (.int (vz q))) := by
  obtain ⟨θ, sc, ai, al, az, fo, ⟨⟨rfl, rfl⟩, ⟨rfl, rfl⟩, rfl, rfl⟩, hT, hM, hK, hI, hR, hS, hO⟩ := h
  refine (c52 rfl hT hi_1).imp fun r v1 hq => ?_
  obtain ⟨rfl, q, hq, rfl⟩ := hq
  exact ⟨⟨_, _, ⟨rfl, rfl⟩, lI_x hT hM hK hI hR hS hO⟩, q, hq, rfl⟩
theorem x53 {L : Nat} {xs : Nat → Int32} {vh : vm_H} {n p n2 p2 t : Int} {g : Int64} (h : lI L xs vh n p n2 p2 t g) {i1 : Int} (hi_1 : -2147483648 ≤ i1 ∧ i1 < 2147483648) {i2 : Int} (hi_2 : -2147483648 ≤ i2 ∧ i2 < 2147483648) {i3 : Int} (hi_3 : -2147483648 ≤ i3 ∧ i3 < 2147483648) : vm_Rp 3 69 53 [.ref 1, .int (vz i1), .int (vz i2), .int (vz i3)] vh (fun r v1 => (∃ n1 p1 : Int, (n1 = n ∧ p1 = p) ∧ lI L xs v1 n1 p1 n2 p2 t g) ∧ ∃ q : Int64, r = some (.long q)) := by
  obtain ⟨θ, sc, ai, al, az, fo, ⟨⟨rfl, rfl⟩, ⟨rfl, rfl⟩, rfl, rfl⟩, hT, hM, hK, hI, hR, hS, hO⟩ := h
  refine (c53 rfl hT hi_1 hi_2 hi_3).imp fun r v1 hq => ?_
  obtain ⟨hT1, q, rfl⟩ := hq
  exact ⟨⟨_, _, ⟨rfl, rfl⟩, lI_x hT1 hM hK hI hR hS hO⟩, q, rfl⟩
theorem x54 {L : Nat} {xs : Nat → Int32} {vh : vm_H} {n p n2 p2 t : Int} {g : Int64} (h : lI L xs vh n p n2 p2 t g) {i1 : Int} (hi_1 : -2147483648 ≤ i1 ∧ i1 < 2147483648) {i2 : Int} (hi_2 : -2147483648 ≤ i2 ∧ i2 < 2147483648) {i3 : Int} (hi_3 : -2147483648 ≤ i3 ∧ i3 < 2147483648) : vm_Rp 3 69 54 [.ref 1, .int (vz i1), .int (vz i2), .int (vz i3)] vh (fun r v1 => (∃ n1 p1 : Int, (n1 = n ∧ p1 = p) ∧ lI L xs v1 n1 p1 n2 p2 t g) ∧ ∃ q : Int, (-2147483648 ≤ q ∧ q < 2147483648) ∧ r = some (.int (vz q))) := by
  obtain ⟨θ, sc, ai, al, az, fo, ⟨⟨rfl, rfl⟩, ⟨rfl, rfl⟩, rfl, rfl⟩, hT, hM, hK, hI, hR, hS, hO⟩ := h
  refine (c54 rfl hT hi_1 hi_2 hi_3).imp fun r v1 hq => ?_
  obtain ⟨hT1, q, hq, rfl⟩ := hq
  exact ⟨⟨_, _, ⟨rfl, rfl⟩, lI_x hT1 hM hK hI hR hS hO⟩, q, hq, rfl⟩
theorem x55 {L : Nat} {xs : Nat → Int32} {vh : vm_H} {n p n2 p2 t : Int} {g : Int64} (h : lI L xs vh n p n2 p2 t g) {i1 : Int} (hi_1 : -2147483648 ≤ i1 ∧ i1 < 2147483648) {l_2 : Int64} : vm_Rp 1 21 55 [.ref 1, .int (vz i1), .long l_2] vh (fun r v1 => (∃ n1 p1 : Int, (n1 = n ∧ p1 = p) ∧ lI L xs v1 n1 p1 n2 p2 t g) ∧ ∃ q : Int, ((0 ≤ q ∧ q ≤ 1) ∧ ((q = 0 ∧ (i1 < 0 ∨ n ≤ i1)) ∨ (q = 1 ∧ 0 ≤ i1 ∧ i1 < n))) ∧ r = some (.int (vz q))) := by
  obtain ⟨θ, sc, ai, al, az, fo, ⟨⟨rfl, rfl⟩, ⟨rfl, rfl⟩, rfl, rfl⟩, hT, hM, hK, hI, hR, hS, hO⟩ := h
  refine (c55 rfl hT hi_1).imp fun r v1 hq => ?_
  obtain ⟨hT1, q, hq, rfl⟩ := hq
  exact ⟨⟨_, _, ⟨rfl, rfl⟩, lI_x hT1 hM hK hI hR hS hO⟩, q, hq, rfl⟩
theorem x56 {L : Nat} {xs : Nat → Int32} {vh : vm_H} {n p n2 p2 t : Int} {g : Int64} (h : lI L xs vh n p n2 p2 t g) {i1 : Int} (hi_1 : -2147483648 ≤ i1 ∧ i1 < 2147483648) {i2 : Int} (hi_2 : -2147483648 ≤ i2 ∧ i2 < 2147483648) : vm_Rp 3 73 56 [.ref 1, .int (vz i1), .int (vz i2)] vh (fun r v1 => (∃ n1 p1 : Int, (n1 = n ∧ p1 = p) ∧ lI L xs v1 n1 p1 n2 p2 t g) ∧ ∃ q : Int64, r = some (.long q)) := by
  obtain ⟨θ, sc, ai, al, az, fo, ⟨⟨rfl, rfl⟩, ⟨rfl, rfl⟩, rfl, rfl⟩, hT, hM, hK, hI, hR, hS, hO⟩ := h
  refine (c56 rfl hT hi_1 hi_2).imp fun r v1 hq => ?_
  obtain ⟨hT1, q, rfl⟩ := hq
  exact ⟨⟨_, _, ⟨rfl, rfl⟩, lI_x hT1 hM hK hI hR hS hO⟩, q, rfl⟩
theorem x57 {L : Nat} {xs : Nat → Int32} {vh : vm_H} {n p n2 p2 t : Int} {g : Int64} (h : lI L xs vh n p n2 p2 t g) {i1 : Int} (hi_1 : -2147483648 ≤ i1 ∧ i1 < 2147483648) : vm_Rp 3 92 57 [.ref 1, .int (vz i1)] vh (fun r v1 => (∃ n1 p1 : Int, (n1 = n ∧ p1 = p) ∧ lI L xs v1 n1 p1 n2 p2 t g) ∧ ∃ q : Int64, r = some (.long q)) := by
  obtain ⟨θ, sc, ai, al, az, fo, ⟨⟨rfl, rfl⟩, ⟨rfl, rfl⟩, rfl, rfl⟩, hT, hM, hK, hI, hR, hS, hO⟩ := h
  refine (c57 rfl hT hi_1).imp fun r v1 hq => ?_
  obtain ⟨hT1, q, rfl⟩ := hq
  exact ⟨⟨_, _, ⟨rfl, rfl⟩, lI_x hT1 hM hK hI hR hS hO⟩, q, rfl⟩
theorem y105 {L : Nat} {xs : Nat → Int32} {vh : vm_H} {n p n2 p2 t : Int} {g : Int64} (h : lI L xs vh n p n2 p2 t g) {i1 : Int} (hi_1 : 0 ≤ i1 ∧ i1 ≤ 1) : vm_Rp 1 20 105 [.ref 238, .int (vz i1)] vh (fun r v1 => (∃ n1 p1 t1 : Int, (((n2 = 8 ∧ n1 = n2) ∨ (n2 ≠ 8 ∧ n1 = n2 + 1)) ∧ p1 = p2) ∧ lI L xs v1 n p n1 p1 t1 g) ∧ ∃ q : Int, ((n2 = 8 ∧ q = -1) ∨ (n2 ≠ 8 ∧ q = n2)) ∧ r = some (.int (vz q))) := by
  obtain ⟨θ, sc, ai, al, az, fo, ⟨⟨rfl, rfl⟩, ⟨rfl, rfl⟩, rfl, rfl⟩, hT, hM, hK, hI, hR, hS, hO⟩ := h
  refine (c105 hM hK hI hi_1 hR).imp fun r v1 hq => ?_
  obtain ⟨⟨sc1, ai1, al1, az1, hM1, hK1, hI1, hF, hE⟩, q, hq, rfl⟩ := hq
  exact ⟨⟨_, _, _, ⟨hE.2, hF.1 4 rfl⟩, lI_y hT hM1 hK1 hI1 hE.1 hS hO⟩, q, hq, rfl⟩
theorem y106 {L : Nat} {xs : Nat → Int32} {vh : vm_H} {n p n2 p2 t : Int} {g : Int64} (h : lI L xs vh n p n2 p2 t g) {i1 : Int} (hi_1 : -2147483648 ≤ i1 ∧ i1 < 2147483648) {i2 : Int} (hi_2 : -2147483648 ≤ i2 ∧ i2 < 2147483648) : vm_Rp 3 77 106 [.ref 238, .int (vz i1), .int (vz i2)] vh (fun r v1 => (∃ n1 p1 t1 : Int, (n1 = n2 ∧ p1 = p2) ∧ lI L xs v1 n p n1 p1 t1 g) ∧ ∃ q : Int, ((0 ≤ q ∧ q ≤ 1) ∧ (q = 1 ↔ (0 ≤ i2 ∧ i2 < n2 ∧ 0 ≤ i1 ∧ i1 < n2))) ∧ r = some (.int (vz q))) := by
  obtain ⟨θ, sc, ai, al, az, fo, ⟨⟨rfl, rfl⟩, ⟨rfl, rfl⟩, rfl, rfl⟩, hT, hM, hK, hI, hR, hS, hO⟩ := h
  refine (c106 hM hK hI hi_1 hi_2 hR).imp fun r v1 hq => ?_
  obtain ⟨⟨sc1, ai1, al1, az1, hM1, hK1, hI1, hF, hE⟩, q, hq, rfl⟩ := hq
  exact ⟨⟨_, _, _, ⟨hF.1 1 rfl, hF.1 4 rfl⟩, lI_y hT hM1 hK1 hI1 hE hS hO⟩, q, hq, rfl⟩
theorem y107 {L : Nat} {xs : Nat → Int32} {vh : vm_H} {n p n2 p2 t : Int} {g : Int64} (h : lI L xs vh n p n2 p2 t g)  : vm_Rp 0 0 107 [.ref 238] vh (fun r v1 => (∃ n1 p1 t1 : Int, (n1 = n2 ∧ ((p2 = 16 ∧ p1 = p2) ∨ (p2 ≠ 16 ∧ p1 = p2 + 1))) ∧ lI L xs v1 n p n1 p1 t1 g) ∧ ∃ q : Int, ((p2 = 16 ∧ q = -1) ∨ (p2 ≠ 16 ∧ q = p2)) ∧ r = some (.int (vz q))) := by
  obtain ⟨θ, sc, ai, al, az, fo, ⟨⟨rfl, rfl⟩, ⟨rfl, rfl⟩, rfl, rfl⟩, hT, hM, hK, hI, hR, hS, hO⟩ := h
  refine (c107 hM hK hI  hR).imp fun r v1 hq => ?_
  obtain ⟨⟨sc1, ai1, al1, az1, hM1, hK1, hI1, hF, hE⟩, q, hq, rfl⟩ := hq
  exact ⟨⟨_, _, _, ⟨hF.1 1 rfl, hE.2⟩, lI_y hT hM1 hK1 hI1 hE.1 hS hO⟩, q, hq, rfl⟩
theorem y108 {L : Nat} {xs : Nat → Int32} {vh : vm_H} {n p n2 p2 t : Int} {g : Int64} (h : lI L xs vh n p n2 p2 t g) {i1 : Int} (hi_1 : -2147483648 ≤ i1 ∧ i1 < 2147483648) {l_2 : Int64} {i3 : Int} (hi_3 : -2147483648 ≤ i3 ∧ i3 < 2147483648) : vm_Rp 3 77 108 [.ref 238, .int (vz i1), .long l_2, .int (vz i3)] vh (fun r v1 => (∃ n1 p1 t1 : Int, (n1 = n2 ∧ p1 = p2) ∧ lI L xs v1 n p n1 p1 t1 g) ∧ ∃ q : Int, ((0 ≤ q ∧ q ≤ 1)) ∧ r = some (.int (vz q))) := by
  obtain ⟨θ, sc, ai, al, az, fo, ⟨⟨rfl, rfl⟩, ⟨rfl, rfl⟩, rfl, rfl⟩, hT, hM, hK, hI, hR, hS, hO⟩ := h
  refine (c108 hM hK hI hi_1 hi_3 hR).imp fun r v1 hq => ?_
  obtain ⟨⟨sc1, ai1, al1, az1, hM1, hK1, hI1, hF, hE⟩, q, hq, rfl⟩ := hq
  exact ⟨⟨_, _, _, ⟨hF.1 1 rfl, hF.1 4 rfl⟩, lI_y hT hM1 hK1 hI1 hE hS hO⟩, q, hq, rfl⟩
theorem y109 {L : Nat} {xs : Nat → Int32} {vh : vm_H} {n p n2 p2 t : Int} {g : Int64} (h : lI L xs vh n p n2 p2 t g) {i1 : Int} (hi_1 : -2147483648 ≤ i1 ∧ i1 < 2147483648) {i2 : Int} (hi_2 : 0 ≤ i2 ∧ i2 ≤ 1) : vm_Rp 1 21 109 [.ref 238, .int (vz i1), .int (vz i2)] vh (fun r v1 => (∃ n1 p1 t1 : Int, (n1 = n2 ∧ p1 = p2) ∧ lI L xs v1 n p n1 p1 t1 g) ∧ ∃ q : Int, ((0 ≤ q ∧ q ≤ 1)) ∧ r = some (.int (vz q))) := by
  obtain ⟨θ, sc, ai, al, az, fo, ⟨⟨rfl, rfl⟩, ⟨rfl, rfl⟩, rfl, rfl⟩, hT, hM, hK, hI, hR, hS, hO⟩ := h
  refine (c109 hM hK hI hi_1 hi_2 hR).imp fun r v1 hq => ?_
  obtain ⟨⟨sc1, ai1, al1, az1, hM1, hK1, hI1, hF, hE⟩, q, hq, rfl⟩ := hq
  exact ⟨⟨_, _, _, ⟨hF.1 1 rfl, hF.1 4 rfl⟩, lI_y hT hM1 hK1 hI1 hE hS hO⟩, q, hq, rfl⟩
theorem y102 {L : Nat} {xs : Nat → Int32} {vh : vm_H} {n p n2 p2 t : Int} {g : Int64} (h : lI L xs vh n p n2 p2 t g)  : vm_Rp 7 181 102 [.ref 238] vh (fun r v1 => (∃ n1 p1 t1 : Int, (n1 = n2 ∧ p1 = p2) ∧ lI L xs v1 n p n1 p1 t1 g) ∧ ∃ q : Int, (-1 ≤ q ∧ q ≤ 3) ∧ r = some (.int (vz q))) := by
  obtain ⟨θ, sc, ai, al, az, fo, ⟨⟨rfl, rfl⟩, ⟨rfl, rfl⟩, rfl, rfl⟩, hT, hM, hK, hI, hR, hS, hO⟩ := h
  refine (c102 hM hK hI  hR).imp fun r v1 hq => ?_
  obtain ⟨⟨sc1, ai1, al1, az1, hM1, hK1, hI1, hF, hE⟩, q, hq, rfl⟩ := hq
  exact ⟨⟨_, _, _, ⟨hF.1 1 rfl, hF.1 4 rfl⟩, lI_y hT hM1 hK1 hI1 hE hS hO⟩, q, hq, rfl⟩
theorem y104 {L : Nat} {xs : Nat → Int32} {vh : vm_H} {n p n2 p2 t : Int} {g : Int64} (h : lI L xs vh n p n2 p2 t g) {i1 : Int} (hi_1 : -2147483648 ≤ i1 ∧ i1 < 2147483648) : vm_Rp 6 157 104 [.ref 238, .int (vz i1)] vh (fun r v1 => (∃ n1 p1 t1 : Int, (n1 = n2 ∧ p1 = p2) ∧ lI L xs v1 n p n1 p1 t1 g) ∧ ∃ q : Int, (-1 ≤ q ∧ q ≤ 2) ∧ r = some (.int (vz q))) := by
  obtain ⟨θ, sc, ai, al, az, fo, ⟨⟨rfl, rfl⟩, ⟨rfl, rfl⟩, rfl, rfl⟩, hT, hM, hK, hI, hR, hS, hO⟩ := h
  refine (c104 hM hK hI hi_1 hR).imp fun r v1 hq => ?_
  obtain ⟨⟨sc1, ai1, al1, az1, hM1, hK1, hI1, hF, hE⟩, q, hq, rfl⟩ := hq
  exact ⟨⟨_, _, _, ⟨hF.1 1 rfl, hF.1 4 rfl⟩, lI_y hT hM1 hK1 hI1 hE hS hO⟩, q, hq, rfl⟩
theorem y112 {L : Nat} {xs : Nat → Int32} {vh : vm_H} {n p n2 p2 t : Int} {g : Int64} (h : lI L xs vh n p n2 p2 t g) {i1 : Int} (hi_1 : -2147483648 ≤ i1 ∧ i1 < 2147483648) {i2 : Int} (hi_2 : -2147483648 ≤ i2 ∧ i2 < 2147483648) : vm_Rp 4 90 112 [.ref 238, .int (vz i1), .int (vz i2)] vh (fun r v1 => (∃ n1 p1 t1 : Int, (n1 = n2 ∧ p1 = p2) ∧ lI L xs v1 n p n1 p1 t1 g) ∧ ∃ q : Int, (-2147483648 ≤ q ∧ q < 2147483648) ∧ r = some (.int (vz q))) := by
  obtain ⟨θ, sc, ai, al, az, fo, ⟨⟨rfl, rfl⟩, ⟨rfl, rfl⟩, rfl, rfl⟩, hT, hM, hK, hI, hR, hS, hO⟩ := h
  refine (c112 hM hK hI hi_1 hi_2 hR).imp fun r v1 hq => ?_
  obtain ⟨⟨sc1, ai1, al1, az1, hM1, hK1, hI1, hF, hE⟩, q, hq, rfl⟩ := hq
  exact ⟨⟨_, _, _, ⟨hF.1 1 rfl, hF.1 4 rfl⟩, lI_y hT hM1 hK1 hI1 hE hS hO⟩, q, hq, rfl⟩
theorem y113 {L : Nat} {xs : Nat → Int32} {vh : vm_H} {n p n2 p2 t : Int} {g : Int64} (h : lI L xs vh n p n2 p2 t g) {i1 : Int} (hi_1 : -2147483648 ≤ i1 ∧ i1 < 2147483648) : vm_Rp 0 0 113 [.ref 238, .int (vz i1)] vh (fun r v1 => (∃ n1 p1 t1 : Int, (n1 = n2 ∧ p1 = p2) ∧ lI L xs v1 n p n1 p1 t1 g) ∧ ∃ q : Int, (-2147483648 ≤ q ∧ q < 2147483648) ∧ r = some (.int (vz q))) := by
  obtain ⟨θ, sc, ai, al, az, fo, ⟨⟨rfl, rfl⟩, ⟨rfl, rfl⟩, rfl, rfl⟩, hT, hM, hK, hI, hR, hS, hO⟩ := h
  refine (c113 hM hK hI hi_1 hR).imp fun r v1 hq => ?_
  obtain ⟨⟨sc1, ai1, al1, az1, hM1, hK1, hI1, hF, hE⟩, q, hq, rfl⟩ := hq
  exact ⟨⟨_, _, _, ⟨hF.1 1 rfl, hF.1 4 rfl⟩, lI_y hT hM1 hK1 hI1 hE hS hO⟩, q, hq, rfl⟩
theorem y115 {L : Nat} {xs : Nat → Int32} {vh : vm_H} {n p n2 p2 t : Int} {g : Int64} (h : lI L xs vh n p n2 p2 t g) {i1 : Int} (hi_1 : -2147483648 ≤ i1 ∧ i1 < 2147483648) {i2 : Int} (hi_2 : -2147483648 ≤ i2 ∧ i2 < 2147483648) {i3 : Int} (hi_3 : -2147483648 ≤ i3 ∧ i3 < 2147483648) : vm_Rp 5 112 115 [.ref 238, .int (vz i1), .int (vz i2), .int (vz i3)] vh (fun r v1 => (∃ n1 p1 t1 : Int, (n1 = n2 ∧ p1 = p2) ∧ lI L xs v1 n p n1 p1 t1 g) ∧ ∃ q : Int64, r = some (.long q)) := by
  obtain ⟨θ, sc, ai, al, az, fo, ⟨⟨rfl, rfl⟩, ⟨rfl, rfl⟩, rfl, rfl⟩, hT, hM, hK, hI, hR, hS, hO⟩ := h
  refine (c115 hM hK hI hi_1 hi_2 hi_3 hR).imp fun r v1 hq => ?_
  obtain ⟨⟨sc1, ai1, al1, az1, hM1, hK1, hI1, hF, hE⟩, q, rfl⟩ := hq
  exact ⟨⟨_, _, _, ⟨hF.1 1 rfl, hF.1 4 rfl⟩, lI_y hT hM1 hK1 hI1 hE hS hO⟩, q, rfl⟩
theorem y116 {L : Nat} {xs : Nat → Int32} {vh : vm_H} {n p n2 p2 t : Int} {g : Int64} (h : lI L xs vh n p n2 p2 t g) {i1 : Int} (hi_1 : -2147483648 ≤ i1 ∧ i1 < 2147483648) {i2 : Int} (hi_2 : -2147483648 ≤ i2 ∧ i2 < 2147483648) {i3 : Int} (hi_3 : -2147483648 ≤ i3 ∧ i3 < 2147483648) : vm_Rp 5 112 116 [.ref 238, .int (vz i1), .int (vz i2), .int (vz i3)] vh (fun r v1 => (∃ n1 p1 t1 : Int, (n1 = n2 ∧ p1 = p2) ∧ lI L xs v1 n p n1 p1 t1 g) ∧ ∃ q : Int, (-2147483648 ≤ q ∧ q < 2147483648) ∧ r = some (.int (vz q))) := by
  obtain ⟨θ, sc, ai, al, az, fo, ⟨⟨rfl, rfl⟩, ⟨rfl, rfl⟩, rfl, rfl⟩, hT, hM, hK, hI, hR, hS, hO⟩ := h
  refine (c116 hM hK hI hi_1 hi_2 hi_3 hR).imp fun r v1 hq => ?_
  obtain ⟨⟨sc1, ai1, al1, az1, hM1, hK1, hI1, hF, hE⟩, q, hq, rfl⟩ := hq
  exact ⟨⟨_, _, _, ⟨hF.1 1 rfl, hF.1 4 rfl⟩, lI_y hT hM1 hK1 hI1 hE hS hO⟩, q, hq, rfl⟩
theorem y117 {L : Nat} {xs : Nat → Int32} {vh : vm_H} {n p n2 p2 t : Int} {g : Int64} (h : lI L xs vh n p n2 p2 t g) {i1 : Int} (hi_1 : -2147483648 ≤ i1 ∧ i1 < 2147483648) {l_2 : Int64} : vm_Rp 0 0 117 [.ref 238, .int (vz i1), .long l_2] vh (fun r v1 => (∃ n1 p1 t1 : Int, (n1 = n2 ∧ p1 = p2) ∧ lI L xs v1 n p n1 p1 t1 g) ∧ ∃ q : Int, ((0 ≤ q ∧ q ≤ 1) ∧ (q = 1 ↔ (0 ≤ i1 ∧ i1 < n2))) ∧ r = some (.int (vz q))) := by
  obtain ⟨θ, sc, ai, al, az, fo, ⟨⟨rfl, rfl⟩, ⟨rfl, rfl⟩, rfl, rfl⟩, hT, hM, hK, hI, hR, hS, hO⟩ := h
  refine (c117 hM hK hI hi_1 hR).imp fun r v1 hq => ?_
  obtain ⟨⟨sc1, ai1, al1, az1, hM1, hK1, hI1, hF, hE⟩, q, hq, rfl⟩ := hq
  exact ⟨⟨_, _, _, ⟨hF.1 1 rfl, hF.1 4 rfl⟩, lI_y hT hM1 hK1 hI1 hE hS hO⟩, q, hq, rfl⟩
theorem y120 {L : Nat} {xs : Nat → Int32} {vh : vm_H} {n p n2 p2 t : Int} {g : Int64} (h : lI L xs vh n p n2 p2 t g) {i1 : Int} (hi_1 : -2147483648 ≤ i1 ∧ i1 < 2147483648) {i2 : Int} (hi_2 : -2147483648 ≤ i2 ∧ i2 < 2147483648) : vm_Rp 5 112 120 [.ref 238, .int (vz i1), .int (vz i2)] vh (fun r v1 => (∃ n1 p1 t1 : Int, (n1 = n2 ∧ p1 = p2) ∧ lI L xs v1 n p n1 p1 t1 g) ∧ ∃ q : Int64, r = some (.long q)) := by
  obtain ⟨θ, sc, ai, al, az, fo, ⟨⟨rfl, rfl⟩, ⟨rfl, rfl⟩, rfl, rfl⟩, hT, hM, hK, hI, hR, hS, hO⟩ := h
  refine (c120 hM hK hI hi_1 hi_2 hR).imp fun r v1 hq => ?_
  obtain ⟨⟨sc1, ai1, al1, az1, hM1, hK1, hI1, hF, hE⟩, q, rfl⟩ := hq
  exact ⟨⟨_, _, _, ⟨hF.1 1 rfl, hF.1 4 rfl⟩, lI_y hT hM1 hK1 hI1 hE hS hO⟩, q, rfl⟩
theorem y121 {L : Nat} {xs : Nat → Int32} {vh : vm_H} {n p n2 p2 t : Int} {g : Int64} (h : lI L xs vh n p n2 p2 t g) {i1 : Int} (hi_1 : -2147483648 ≤ i1 ∧ i1 < 2147483648) : vm_Rp 5 112 121 [.ref 238, .int (vz i1)] vh (fun r v1 => (∃ n1 p1 t1 : Int, (n1 = n2 ∧ p1 = p2) ∧ lI L xs v1 n p n1 p1 t1 g) ∧ ∃ q : Int64, r = some (.long q)) := by
  obtain ⟨θ, sc, ai, al, az, fo, ⟨⟨rfl, rfl⟩, ⟨rfl, rfl⟩, rfl, rfl⟩, hT, hM, hK, hI, hR, hS, hO⟩ := h
  refine (c121 hM hK hI hi_1 hR).imp fun r v1 hq => ?_
  obtain ⟨⟨sc1, ai1, al1, az1, hM1, hK1, hI1, hF, hE⟩, q, rfl⟩ := hq
  exact ⟨⟨_, _, _, ⟨hF.1 1 rfl, hF.1 4 rfl⟩, lI_y hT hM1 hK1 hI1 hE hS hO⟩, q, rfl⟩
