section WI
variable {d w k pc x y z : Nat} {A : vq_A} {r : List Value} {vh : vm_H} {Post : vq_Q}
theorem w_irem {a b : Int} (e : vm_ent k pc = some (.irem, x, y, z)) (ha : 0 ≤ a ∧ a < 2147483648) (hb : 0 < b ∧ b < 2147483648) (g : vm_Wp d w k (pc + 1) A (.int (vz (a % b)) :: r) vh Post) : vm_Wp d w k pc A (.int (vz b) :: .int (vz a) :: r) vh Post := by
  have hz : ¬ vz b = 0 := fun q => by
    have h := (vz_inj (by omega) (by decide)).mp (show vz b = vz 0 from q)
    omega
  exact w_x e (fun _ => by simp only [vm_x]; rw [if_neg hz, vz_rem ha hb]; rfl) g
end WI
theorem gd_at {ai : Nat → Nat → Int} {al : Nat → Nat → Int64} {s t : Int} (h : gd ai al) (hs : 0 ≤ s ∧ s < 72) (ht : 0 ≤ t ∧ t < ai 242 s.toNat) : gl (al 243 (60 * s + t).toNat) := by
  have e : (60 * s + t).toNat = 60 * s.toNat + t.toNat := by omega
  rw [e]
  exact h _ _ (by omega) (by omega)
theorem pm_step {c : Nat → Int64} {b : Nat} {x : Int} {y g : Int64} (h : ∀ t : Nat, (t : Int) < x → y.toInt ≤ ((c (b + t)).toInt.natAbs : Int) ∧ 0 < y.toInt) (hx : 0 ≤ x) (_ : 0 ≤ y.toInt) {z : Int64} (hz : z = c (b + x.toNat)) (hg : gl z) (hc : cmn g.toInt (y.toInt.natAbs : Int) (z.toInt.natAbs : Int)) : ∀ t : Nat, (t : Int) < x + 1 → g.toInt ≤ ((c (b + t)).toInt.natAbs : Int) ∧ 0 < g.toInt := by
  intro t ht
  obtain ⟨c1, c2, c3, c4⟩ := hc
  have hz0 := hg.1
  have d3 := c3 (by omega)
  have d4 := c4 (Or.inr (by omega))
  by_cases q : t = x.toNat
  · rw [q, ← hz]; exact ⟨d3, d4⟩
  · have h1 := h t (by omega)
    have d2 := c2 (by omega)
    exact ⟨by omega, d4⟩
theorem sg_div {al al0 al1 : Nat → Nat → Int64} {s x : Int} {y : Int64} (h : sg al0 (60 * s).toNat x) (hs : 0 ≤ s) (hx : 0 ≤ x ∧ x < 60) (h2 : ∀ t : Nat, x ≤ (t : Int) → (t : Int) < 60 → al0 243 ((60 * s).toNat + t) = al 243 ((60 * s).toNat + t)) (hg : gl (al 243 (60 * s + x).toNat)) (hy : y.toInt ≠ 0 ∧ y.toInt.natAbs ≤ (al 243 ((60 * s).toNat + x.toNat)).toInt.natAbs) (hd : al1 = u2 al0 243 (60 * s + x).toNat (al0 243 (60 * s + x).toNat / y)) : sg al1 (60 * s).toNat (x + 1) ∧ ∀ t : Nat, x + 1 ≤ (t : Int) → (t : Int) < 60 → al1 243 ((60 * s).toNat + t) = al 243 ((60 * s).toNat + t) := by
  have e : (60 * s + x).toNat = (60 * s).toNat + x.toNat := by omega
  rw [e] at hd hg
  refine ⟨fun t ht => ?_, fun t h3 h4 => ?_⟩
  · rw [hd]
    by_cases q : t = x.toNat
    · rw [q, u2_s, h2 _ (by omega) (by omega)]
      exact gl_div hg hy.1 hy.2
    · rw [u2_o (by omega)]; exact h t (by omega)
  · rw [hd, u2_o (by omega)]; exact h2 t (by omega) h4
/-- what the steps of a proof keep -/
def nk (sc : Nat → Int) (ai : Nat → Nat → Int) (n : Int) : Prop := ((0 ≤ sc 27 ∧ sc 27 ≤ 200) ∧ (0 ≤ sc 28 ∧ sc 28 ≤ 60 * sc 27)) ∧ ∀ s : Nat, (s : Int) < sc 27 → (0 ≤ ai 252 s ∧ ai 252 s < n) ∧ 0 ≤ ai 253 s ∧ 0 ≤ ai 254 s ∧ ai 253 s + ai 254 s ≤ 12300
theorem nk_0 {sc : Nat → Int} {ai : Nat → Nat → Int} {n : Int} (h : sc 27 = 0) (h2 : sc 28 = 0) : nk sc ai n := ⟨by omega, fun s hs => by omega⟩
theorem nk_add {sc : Nat → Int} {ai ai0 ai1 ai2 ai3 : Nat → Nat → Int} {n m c f k : Int} (h : nk sc ai n) (ek : k = sc 27) (e1 : ai0 252 = ai 252) (e2 : ai0 253 = ai 253) (e3 : ai0 254 = ai 254) (hd1 : ai1 = u2 ai0 252 k.toNat m) (hd2 : ai2 = u2 ai1 253 k.toNat f) (hd3 : ai3 = u2 ai2 254 k.toNat c) (hm : 0 ≤ m ∧ m < n) (hf : f = sc 28) (hc : 0 ≤ c ∧ c ≤ 60) : ∀ s : Nat, (s : Int) < sc 27 + 1 → (0 ≤ ai3 252 s ∧ ai3 252 s < n) ∧ 0 ≤ ai3 253 s ∧ 0 ≤ ai3 254 s ∧ ai3 253 s + ai3 254 s ≤ 12300 := by
  intro s hs
  subst ek
  have h0 := h.1
  have q1 : ai3 252 s = if s = (sc 27).toNat then m else ai 252 s := by
    rw [hd3, u2_a (by decide), hd2, u2_a (by decide), hd1]
    by_cases q : s = (sc 27).toNat
    · rw [q, u2_s, if_pos rfl]
    · rw [u2_o q, if_neg q, e1]
  have q2 : ai3 253 s = if s = (sc 27).toNat then f else ai 253 s := by
    rw [hd3, u2_a (by decide), hd2]
    by_cases q : s = (sc 27).toNat
    · rw [q, u2_s, if_pos rfl]
    · rw [u2_o q, if_neg q, hd1, u2_a (by decide), e2]
  have q3 : ai3 254 s = if s = (sc 27).toNat then c else ai 254 s := by
    rw [hd3]
    by_cases q : s = (sc 27).toNat
    · rw [q, u2_s, if_pos rfl]
    · rw [u2_o q, if_neg q, hd2, u2_a (by decide), hd1, u2_a (by decide), e3]
  rw [q1, q2, q3]
  by_cases q : s = (sc 27).toNat
  · rw [if_pos q, if_pos q, if_pos q]; omega
  · rw [if_neg q, if_neg q, if_neg q]; exact h.2 s (by omega)
/-- the base: slots below a bound, their main places at least their numbers -/
def bs (sc : Nat → Int) (ai : Nat → Nat → Int) (al : Nat → Nat → Int64) (az : Nat → Nat → Int32) (n b : Int) : Prop := ∀ m : Nat, (m : Int) < n → (16 ≤ ai 261 m ∧ ai 261 m < b) ∧ (m : Int) ≤ mpI sc ai al az (ai 261 m)
theorem bs_fr {X Y : List Nat} {lo hi : Nat} {sc sc1 : Nat → Int} {ai ai1 : Nat → Nat → Int} {al al1 : Nat → Nat → Int64} {az az1 : Nat → Nat → Int32} {n b : Int} (h : bs sc ai al az n b) (hk : tmok ai) (hf : fr X Y lo hi sc ai al az sc1 ai1 al1 az1) (h1 : X.contains 1 = false) (h2 : Y.contains 239 = false) (h3 : Y.contains 240 = false) (h4 : Y.contains 261 = false) (hb : hi < lo ∨ b ≤ (lo : Int)) : bs sc1 ai1 al1 az1 n b := by
  intro m hm
  have q := h m hm
  rw [hf.2.1 261 h4 (by decide), mpI_fr hf hk h1 h2 h3 (by omega) (by omega)]
  exact q

theorem k81 {sc : Nat → Int} {ai : Nat → Nat → Int} {al : Nat → Nat → Int64} {az : Nat → Nat → Int32} {v0 vh : vm_H} (hM : tm sc ai al az v0 vh) (hK : tmok ai) (hI : gi sc ai al az) {i1 : Int} (hi_1 : 0 ≤ i1 ∧ i1 < 72) {i2 : Int} (hi_2 : 0 ≤ i2 ∧ i2 < 72) (hne : i1 ≠ i2) : vm_Rp 0 0 81 [.ref 238, .int (vz i1), .int (vz i2)] vh (fun r v1 => (∃ (sc1 : Nat → Int) (ai1 : Nat → Nat → Int) (al1 : Nat → Nat → Int64) (az1 : Nat → Nat → Int32), tm sc1 ai1 al1 az1 v0 v1 ∧ tmok ai1 ∧ gi sc1 ai1 al1 az1 ∧ fr [] [] (i2).toNat (i2).toNat sc ai al az sc1 ai1 al1 az1 ∧ (mpI sc1 ai1 al1 az1 i2 = mpI sc ai al az i1 ∧ ai1 242 (i2).toNat = ai 242 (i1).toNat)) ∧ r = none) := by
  refine (c81 hM hK hi_1 hi_2 hne).imp fun q v hq => ?_
  obtain ⟨⟨al1, hc, hm, hk⟩, rfl⟩ := hq
  have hk1 := hK.1 (i1).toNat
  have hF : fr [] [] (i2).toNat (i2).toNat sc ai al az sc (u2 ai 242 (i2).toNat (ai 242 (i1).toNat)) al1 az := ⟨fun _ _ => rfl, fun a _ ha => u2_af ha, fun a _ h3 h4 => hc.1 a ⟨h3, h4⟩, fun s hs => ⟨u2_o (by omega), fun t ht => ⟨hc.2.1 243 _ (by omega), hc.2.1 244 _ (by omega)⟩⟩, fun _ _ => rfl⟩
  refine ⟨⟨sc, _, al1, az, hm, hk, ⟨⟨hI.1.1, gd_new hI.1.2 hi_2.1 hF hk fun t ht => ?_⟩, hI.2⟩, hF, mpI_cg rfl rfl (u2_af (by decide)) u2_s fun t ht => ?_, u2_s⟩, rfl⟩
  · rw [u2_s] at ht
    rw [(hc.2.2 t (by omega)).1]
    have e : (60 * i1).toNat + t = 60 * (i1).toNat + t := by omega
    rw [e]
    exact hI.1.2 (i1).toNat t (by omega) ht
  · exact (hc.2.2 t (by omega)).2
theorem k80 {sc : Nat → Int} {ai : Nat → Nat → Int} {al : Nat → Nat → Int64} {az : Nat → Nat → Int32} {v0 vh : vm_H} (hM : tm sc ai al az v0 vh) (hK : tmok ai) (hI : gi sc ai al az) {i1 : Int} (hi_1 : 0 ≤ i1 ∧ i1 < 72) : vm_Rp 2 47 80 [.ref 238, .int (vz i1)] vh (fun r v1 => (∃ (sc1 : Nat → Int) (ai1 : Nat → Nat → Int) (al1 : Nat → Nat → Int64) (az1 : Nat → Nat → Int32), tm sc1 ai1 al1 az1 v0 v1 ∧ tmok ai1 ∧ gi sc1 ai1 al1 az1 ∧ fr [] [] (i1).toNat (i1).toNat sc ai al az sc1 ai1 al1 az1 ∧ (ai1 = ai)) ∧ r = none) := by
  refine (c80 hM hK hi_1 hI.1.1.1).imp fun q v hq => ?_
  obtain ⟨⟨al1, hc, hm⟩, rfl⟩ := hq
  have hk1 := hK.1 (i1).toNat
  have hF : fr [] [] (i1).toNat (i1).toNat sc ai al az sc ai al1 az := ⟨fun _ _ => rfl, fun _ _ _ => rfl, fun a _ h3 h4 => hc.1 a ⟨h3, h4⟩, fun s hs => ⟨rfl, fun t ht => ⟨hc.2.1 243 _ (by omega), hc.2.1 244 _ (by omega)⟩⟩, fun _ _ => rfl⟩
  refine ⟨⟨sc, ai, al1, az, hm, hK, ⟨⟨hI.1.1, gd_new hI.1.2 hi_1.1 hF hK fun t ht => ?_⟩, hI.2⟩, hF, rfl⟩, rfl⟩
  refine hc.2.2 gl (fun t ht => ?_) t (by omega)
  have e : (60 * i1).toNat + t = 60 * (i1).toNat + t := by omega
  rw [e]
  exact hI.1.2 (i1).toNat t (by omega) (by omega)
theorem k87 {sc : Nat → Int} {ai : Nat → Nat → Int} {al : Nat → Nat → Int64} {az : Nat → Nat → Int32} {v0 vh : vm_H} (hM : tm sc ai al az v0 vh) (hK : tmok ai) (hI : gi sc ai al az) {i1 : Int} (hi_1 : 0 ≤ i1 ∧ i1 < 72) {i2 : Int} (hi_2 : -2147483648 ≤ i2 ∧ i2 < 2147483648) {i3 : Int} (hi_3 : -2147483648 ≤ i3 ∧ i3 < 2147483648) (hne : i1 ≠ 70) : vm_Rp 1 22 87 [.ref 238, .int (vz i1), .int (vz i2), .int (vz i3)] vh (fun r v1 => (∃ (sc1 : Nat → Int) (ai1 : Nat → Nat → Int) (al1 : Nat → Nat → Int64) (az1 : Nat → Nat → Int32), tm sc1 ai1 al1 az1 v0 v1 ∧ tmok ai1 ∧ gi sc1 ai1 al1 az1 ∧ fr [] [] 70 70 sc ai al az sc1 ai1 al1 az1 ∧ (True)) ∧ r = none) := by
  refine (c87 hM hK hi_1 hi_2 hi_3 hne).imp fun q v hq => ?_
  obtain ⟨⟨al1, n, hn, hc, hm, hk⟩, rfl⟩ := hq
  have hk1 := hK.1 (i1).toNat
  have hF : fr [] [] 70 70 sc ai al az sc (u2 ai 242 70 n) al1 az := ⟨fun _ _ => rfl, fun a _ ha => u2_af ha, fun a _ h3 h4 => hc.1 a ⟨h3, h4⟩, fun s hs => ⟨u2_o (by omega), fun t ht => ⟨hc.2.1 243 _ (by omega), hc.2.1 244 _ (by omega)⟩⟩, fun _ _ => rfl⟩
  have hg : gd (u2 ai 242 70 n) al1 := by
    refine gd_new (s := 70) hI.1.2 (by decide) hF hk fun t ht => ?_
    have e0 : u2 ai 242 70 n 242 (70 : Int).toNat = n := u2_s
    rw [e0] at ht
    refine hc.2.2 gl (fun t ht => ?_) t (by omega)
    have e : (60 * i1).toNat + t = 60 * (i1).toNat + t := by omega
    rw [e]
    exact hI.1.2 (i1).toNat t (by omega) (by omega)
  exact ⟨⟨sc, _, al1, az, hm, hk, ⟨⟨hI.1.1, hg⟩, hI.2⟩, hF, trivial⟩, rfl⟩
theorem k87j {sc : Nat → Int} {ai : Nat → Nat → Int} {al : Nat → Nat → Int64} {az : Nat → Nat → Int32} {v0 vh : vm_H} (hM : tm sc ai al az v0 vh) (hK : tmok ai) (hI : gj sc ai al az) {i1 : Int} (hi_1 : 0 ≤ i1 ∧ i1 < 72) {i2 : Int} (hi_2 : -2147483648 ≤ i2 ∧ i2 < 2147483648) {i3 : Int} (hi_3 : -2147483648 ≤ i3 ∧ i3 < 2147483648) (hne : i1 ≠ 70) : vm_Rp 1 22 87 [.ref 238, .int (vz i1), .int (vz i2), .int (vz i3)] vh (fun r v1 => (∃ (sc1 : Nat → Int) (ai1 : Nat → Nat → Int) (al1 : Nat → Nat → Int64) (az1 : Nat → Nat → Int32), tm sc1 ai1 al1 az1 v0 v1 ∧ tmok ai1 ∧ gj sc1 ai1 al1 az1 ∧ fr [] [] 70 70 sc ai al az sc1 ai1 al1 az1 ∧ (True)) ∧ r = none) := by
  refine (c87 hM hK hi_1 hi_2 hi_3 hne).imp fun q v hq => ?_
  obtain ⟨⟨al1, n, hn, hc, hm, hk⟩, rfl⟩ := hq
  have hk1 := hK.1 (i1).toNat
  have hF : fr [] [] 70 70 sc ai al az sc (u2 ai 242 70 n) al1 az := ⟨fun _ _ => rfl, fun a _ ha => u2_af ha, fun a _ h3 h4 => hc.1 a ⟨h3, h4⟩, fun s hs => ⟨u2_o (by omega), fun t ht => ⟨hc.2.1 243 _ (by omega), hc.2.1 244 _ (by omega)⟩⟩, fun _ _ => rfl⟩
  have hg : gd (u2 ai 242 70 n) al1 := by
    refine gd_new (s := 70) hI.2 (by decide) hF hk fun t ht => ?_
    have e0 : u2 ai 242 70 n 242 (70 : Int).toNat = n := u2_s
    rw [e0] at ht
    refine hc.2.2 gl (fun t ht => ?_) t (by omega)
    have e : (60 * i1).toNat + t = 60 * (i1).toNat + t := by omega
    rw [e]
    exact hI.2 (i1).toNat t (by omega) (by omega)
  exact ⟨⟨sc, _, al1, az, hm, hk, ⟨hI.1, hg⟩, hF, trivial⟩, rfl⟩
theorem k101 {sc : Nat → Int} {ai : Nat → Nat → Int} {al : Nat → Nat → Int64} {az : Nat → Nat → Int32} {v0 vh : vm_H} (hM : tm sc ai al az v0 vh) (hK : tmok ai) (hI : gi sc ai al az) : vm_Rp 0 0 101 [.ref 238] vh (fun r v1 => (∃ (sc1 : Nat → Int), tm sc1 ai al az v0 v1 ∧ gi sc1 ai al az ∧ fr [10, 11, 12, 18] [] 1 0 sc ai al az sc1 ai al az ∧ (sc1 11 = 0 ∧ sc1 18 = 0)) ∧ r = none) := by
  refine (c101 hM hK).imp fun q v hq => ?_
  obtain ⟨hm, rfl⟩ := hq
  exact ⟨⟨fgS sc, hm, gi_s (gi_s (gi_s (gi_s hI rfl (by decide) (by decide) (by decide)) rfl (by decide) (by decide) (by decide)) rfl (by decide) (by decide) (by decide)) rfl (by decide) (by decide) (by decide), fr_s (fr_s (fr_s (fr_s (fr_0 _ _ _ _ _ _ _ _) rfl rfl) rfl rfl) rfl rfl) rfl rfl, rfl, rfl⟩, rfl⟩
theorem e94_0 : vm_ent 94 0 = some (.aload_n 0, 0, 0, 0) := by decide +kernel
theorem e94_1 : vm_ent 94 1 = some (.iload_n 1, 0, 0, 0) := by decide +kernel
theorem e94_2 : vm_ent 94 2 = some (.invokevirtual 152, 86, 4, 786) := by decide +kernel
theorem e94_5 : vm_ent 94 5 = some (.istore_n 3, 0, 0, 0) := by decide +kernel
theorem e94_6 : vm_ent 94 6 = some (.aload_n 0, 0, 0, 0) := by decide +kernel
theorem e94_7 : vm_ent 94 7 = some (.iload_n 2, 0, 0, 0) := by decide +kernel
theorem e94_8 : vm_ent 94 8 = some (.invokevirtual 152, 86, 4, 786) := by decide +kernel
theorem e94_11 : vm_ent 94 11 = some (.istore 4, 0, 0, 0) := by decide +kernel
theorem e94_13 : vm_ent 94 13 = some (.iload_n 3, 0, 0, 0) := by decide +kernel
theorem e94_14 : vm_ent 94 14 = some (.iload 4, 0, 0, 0) := by decide +kernel
theorem e94_16 : vm_ent 94 16 = some (.if_icmp .eq 15, 31, 0, 0) := by decide +kernel
theorem e94_19 : vm_ent 94 19 = some (.iload_n 3, 0, 0, 0) := by decide +kernel
theorem e94_20 : vm_ent 94 20 = some (.iload 4, 0, 0, 0) := by decide +kernel
theorem e94_22 : vm_ent 94 22 = some (.if_icmp .ge 7, 29, 0, 0) := by decide +kernel
theorem e94_25 : vm_ent 94 25 = some (.iconst 1, 0, 0, 0) := by decide +kernel
theorem e94_26 : vm_ent 94 26 = some (.goto 4, 30, 0, 0) := by decide +kernel
theorem e94_29 : vm_ent 94 29 = some (.iconst 0, 0, 0, 0) := by decide +kernel
theorem e94_30 : vm_ent 94 30 = some (.ireturn, 0, 0, 0) := by decide +kernel
theorem e94_31 : vm_ent 94 31 = some (.aload_n 0, 0, 0, 0) := by decide +kernel
theorem e94_32 : vm_ent 94 32 = some (.iload_n 1, 0, 0, 0) := by decide +kernel
theorem e94_33 : vm_ent 94 33 = some (.aload_n 0, 0, 0, 0) := by decide +kernel
theorem e94_34 : vm_ent 94 34 = some (.getfield 13, 6, 3, 637) := by decide +kernel
theorem e94_37 : vm_ent 94 37 = some (.iload_n 3, 0, 0, 0) := by decide +kernel
theorem e94_38 : vm_ent 94 38 = some (.iaload, 0, 0, 0) := by decide +kernel
theorem e94_39 : vm_ent 94 39 = some (.invokevirtual 103, 85, 4, 790) := by decide +kernel
theorem e94_42 : vm_ent 94 42 = some (.istore 5, 0, 0, 0) := by decide +kernel
theorem e94_44 : vm_ent 94 44 = some (.aload_n 0, 0, 0, 0) := by decide +kernel
theorem e94_45 : vm_ent 94 45 = some (.iload_n 2, 0, 0, 0) := by decide +kernel
theorem e94_46 : vm_ent 94 46 = some (.aload_n 0, 0, 0, 0) := by decide +kernel
theorem e94_47 : vm_ent 94 47 = some (.getfield 13, 6, 3, 637) := by decide +kernel
theorem e94_50 : vm_ent 94 50 = some (.iload 4, 0, 0, 0) := by decide +kernel
theorem e94_52 : vm_ent 94 52 = some (.iaload, 0, 0, 0) := by decide +kernel
theorem e94_53 : vm_ent 94 53 = some (.invokevirtual 103, 85, 4, 790) := by decide +kernel
theorem e94_56 : vm_ent 94 56 = some (.istore 6, 0, 0, 0) := by decide +kernel
theorem e94_58 : vm_ent 94 58 = some (.iload 5, 0, 0, 0) := by decide +kernel
theorem e94_60 : vm_ent 94 60 = some (.iload 6, 0, 0, 0) := by decide +kernel
theorem e94_62 : vm_ent 94 62 = some (.if_icmp .eq 18, 80, 0, 0) := by decide +kernel
theorem e94_65 : vm_ent 94 65 = some (.iload 5, 0, 0, 0) := by decide +kernel
theorem e94_67 : vm_ent 94 67 = some (.iload 6, 0, 0, 0) := by decide +kernel
theorem e94_69 : vm_ent 94 69 = some (.if_icmp .ge 7, 76, 0, 0) := by decide +kernel
theorem e94_72 : vm_ent 94 72 = some (.iconst 1, 0, 0, 0) := by decide +kernel
theorem e94_73 : vm_ent 94 73 = some (.goto 27, 100, 0, 0) := by decide +kernel
theorem e94_76 : vm_ent 94 76 = some (.iconst 0, 0, 0, 0) := by decide +kernel
theorem e94_77 : vm_ent 94 77 = some (.goto 23, 100, 0, 0) := by decide +kernel
theorem e94_80 : vm_ent 94 80 = some (.aload_n 0, 0, 0, 0) := by decide +kernel
theorem e94_81 : vm_ent 94 81 = some (.getfield 20, 6, 6, 640) := by decide +kernel
theorem e94_84 : vm_ent 94 84 = some (.iload_n 1, 0, 0, 0) := by decide +kernel
theorem e94_85 : vm_ent 94 85 = some (.iaload, 0, 0, 0) := by decide +kernel
theorem e94_86 : vm_ent 94 86 = some (.aload_n 0, 0, 0, 0) := by decide +kernel
theorem e94_87 : vm_ent 94 87 = some (.getfield 20, 6, 6, 640) := by decide +kernel
theorem e94_90 : vm_ent 94 90 = some (.iload_n 2, 0, 0, 0) := by decide +kernel
theorem e94_91 : vm_ent 94 91 = some (.iaload, 0, 0, 0) := by decide +kernel
theorem e94_92 : vm_ent 94 92 = some (.if_icmp .ge 7, 99, 0, 0) := by decide +kernel
theorem e94_95 : vm_ent 94 95 = some (.iconst 1, 0, 0, 0) := by decide +kernel
theorem e94_96 : vm_ent 94 96 = some (.goto 4, 100, 0, 0) := by decide +kernel
theorem e94_99 : vm_ent 94 99 = some (.iconst 0, 0, 0, 0) := by decide +kernel
theorem e94_100 : vm_ent 94 100 = some (.ireturn, 0, 0, 0) := by decide +kernel
theorem e95_0 : vm_ent 95 0 = some (.aload_n 0, 0, 0, 0) := by decide +kernel
theorem e95_1 : vm_ent 95 1 = some (.getfield 149, 6, 40, 674) := by decide +kernel
theorem e95_4 : vm_ent 95 4 = some (.ifCond .eq 26, 30, 0, 0) := by decide +kernel
theorem e95_7 : vm_ent 95 7 = some (.aload_n 0, 0, 0, 0) := by decide +kernel
theorem e95_8 : vm_ent 95 8 = some (.iload_n 1, 0, 0, 0) := by decide +kernel
theorem e95_9 : vm_ent 95 9 = some (.invokevirtual 152, 86, 4, 786) := by decide +kernel
theorem e95_12 : vm_ent 95 12 = some (.aload_n 0, 0, 0, 0) := by decide +kernel
theorem e95_13 : vm_ent 95 13 = some (.aload_n 0, 0, 0, 0) := by decide +kernel
theorem e95_14 : vm_ent 95 14 = some (.getfield 78, 6, 39, 673) := by decide +kernel
theorem e95_17 : vm_ent 95 17 = some (.aload_n 0, 0, 0, 0) := by decide +kernel
theorem e95_18 : vm_ent 95 18 = some (.getfield 149, 6, 40, 674) := by decide +kernel
theorem e95_21 : vm_ent 95 21 = some (.iconst 1, 0, 0, 0) := by decide +kernel
theorem e95_22 : vm_ent 95 22 = some (.isub, 0, 0, 0) := by decide +kernel
theorem e95_23 : vm_ent 95 23 = some (.iaload, 0, 0, 0) := by decide +kernel
theorem e95_24 : vm_ent 95 24 = some (.invokevirtual 152, 86, 4, 786) := by decide +kernel
theorem e95_27 : vm_ent 95 27 = some (.if_icmp .le 7, 34, 0, 0) := by decide +kernel
theorem e95_30 : vm_ent 95 30 = some (.iconst 1, 0, 0, 0) := by decide +kernel
theorem e95_31 : vm_ent 95 31 = some (.goto 4, 35, 0, 0) := by decide +kernel
theorem e95_34 : vm_ent 95 34 = some (.iconst 0, 0, 0, 0) := by decide +kernel
theorem e95_35 : vm_ent 95 35 = some (.istore_n 2, 0, 0, 0) := by decide +kernel
theorem e95_36 : vm_ent 95 36 = some (.iconst 0, 0, 0, 0) := by decide +kernel
theorem e95_37 : vm_ent 95 37 = some (.istore_n 3, 0, 0, 0) := by decide +kernel
theorem e95_38 : vm_ent 95 38 = some (.iload_n 3, 0, 0, 0) := by decide +kernel
theorem e95_39 : vm_ent 95 39 = some (.aload_n 0, 0, 0, 0) := by decide +kernel
theorem e95_40 : vm_ent 95 40 = some (.getfield 149, 6, 40, 674) := by decide +kernel
theorem e95_43 : vm_ent 95 43 = some (.if_icmp .ge 58, 101, 0, 0) := by decide +kernel
theorem e95_46 : vm_ent 95 46 = some (.iload_n 2, 0, 0, 0) := by decide +kernel
theorem e95_47 : vm_ent 95 47 = some (.ifCond .eq 54, 101, 0, 0) := by decide +kernel
theorem e95_50 : vm_ent 95 50 = some (.aload_n 0, 0, 0, 0) := by decide +kernel
theorem e95_51 : vm_ent 95 51 = some (.getfield 13, 6, 3, 637) := by decide +kernel
theorem e95_54 : vm_ent 95 54 = some (.aload_n 0, 0, 0, 0) := by decide +kernel
theorem e95_55 : vm_ent 95 55 = some (.aload_n 0, 0, 0, 0) := by decide +kernel
theorem e95_56 : vm_ent 95 56 = some (.getfield 78, 6, 39, 673) := by decide +kernel
theorem e95_59 : vm_ent 95 59 = some (.iload_n 3, 0, 0, 0) := by decide +kernel
theorem e95_60 : vm_ent 95 60 = some (.iaload, 0, 0, 0) := by decide +kernel
theorem e95_61 : vm_ent 95 61 = some (.invokevirtual 152, 86, 4, 786) := by decide +kernel
theorem e95_64 : vm_ent 95 64 = some (.iaload, 0, 0, 0) := by decide +kernel
theorem e95_65 : vm_ent 95 65 = some (.istore 4, 0, 0, 0) := by decide +kernel
theorem e95_67 : vm_ent 95 67 = some (.aload_n 0, 0, 0, 0) := by decide +kernel
theorem e95_68 : vm_ent 95 68 = some (.iload_n 1, 0, 0, 0) := by decide +kernel
theorem e95_69 : vm_ent 95 69 = some (.iload 4, 0, 0, 0) := by decide +kernel
theorem e95_71 : vm_ent 95 71 = some (.invokevirtual 103, 85, 4, 790) := by decide +kernel
theorem e95_74 : vm_ent 95 74 = some (.aload_n 0, 0, 0, 0) := by decide +kernel
theorem e95_75 : vm_ent 95 75 = some (.aload_n 0, 0, 0, 0) := by decide +kernel
theorem e95_76 : vm_ent 95 76 = some (.getfield 78, 6, 39, 673) := by decide +kernel
theorem e95_79 : vm_ent 95 79 = some (.iload_n 3, 0, 0, 0) := by decide +kernel
theorem e95_80 : vm_ent 95 80 = some (.iaload, 0, 0, 0) := by decide +kernel
theorem e95_81 : vm_ent 95 81 = some (.iload 4, 0, 0, 0) := by decide +kernel
theorem e95_83 : vm_ent 95 83 = some (.invokevirtual 103, 85, 4, 790) := by decide +kernel
theorem e95_86 : vm_ent 95 86 = some (.if_icmp .ge 7, 93, 0, 0) := by decide +kernel
theorem e95_89 : vm_ent 95 89 = some (.iconst 1, 0, 0, 0) := by decide +kernel
theorem e95_90 : vm_ent 95 90 = some (.goto 4, 94, 0, 0) := by decide +kernel
theorem e95_93 : vm_ent 95 93 = some (.iconst 0, 0, 0, 0) := by decide +kernel
theorem e95_94 : vm_ent 95 94 = some (.istore_n 2, 0, 0, 0) := by decide +kernel
theorem e95_95 : vm_ent 95 95 = some (.iinc 3 1, 0, 0, 0) := by decide +kernel
theorem e95_98 : vm_ent 95 98 = some (.goto (-60), 38, 0, 0) := by decide +kernel
theorem e95_101 : vm_ent 95 101 = some (.iload_n 2, 0, 0, 0) := by decide +kernel
theorem e95_102 : vm_ent 95 102 = some (.ireturn, 0, 0, 0) := by decide +kernel
theorem e97_0 : vm_ent 97 0 = some (.iconst 0, 0, 0, 0) := by decide +kernel
theorem e97_1 : vm_ent 97 1 = some (.istore_n 2, 0, 0, 0) := by decide +kernel
theorem e97_2 : vm_ent 97 2 = some (.iconst 0, 0, 0, 0) := by decide +kernel
theorem e97_3 : vm_ent 97 3 = some (.istore_n 3, 0, 0, 0) := by decide +kernel
theorem e97_4 : vm_ent 97 4 = some (.iload_n 3, 0, 0, 0) := by decide +kernel
theorem e97_5 : vm_ent 97 5 = some (.aload_n 0, 0, 0, 0) := by decide +kernel
theorem e97_6 : vm_ent 97 6 = some (.getfield 149, 6, 40, 674) := by decide +kernel
theorem e97_9 : vm_ent 97 9 = some (.if_icmp .ge 27, 36, 0, 0) := by decide +kernel
theorem e97_12 : vm_ent 97 12 = some (.iload_n 2, 0, 0, 0) := by decide +kernel
theorem e97_13 : vm_ent 97 13 = some (.aload_n 0, 0, 0, 0) := by decide +kernel
theorem e97_14 : vm_ent 97 14 = some (.getfield 78, 6, 39, 673) := by decide +kernel
theorem e97_17 : vm_ent 97 17 = some (.iload_n 3, 0, 0, 0) := by decide +kernel
theorem e97_18 : vm_ent 97 18 = some (.iaload, 0, 0, 0) := by decide +kernel
theorem e97_19 : vm_ent 97 19 = some (.iload_n 1, 0, 0, 0) := by decide +kernel
theorem e97_20 : vm_ent 97 20 = some (.if_icmp .ne 7, 27, 0, 0) := by decide +kernel
theorem e97_23 : vm_ent 97 23 = some (.iconst 1, 0, 0, 0) := by decide +kernel
theorem e97_24 : vm_ent 97 24 = some (.goto 4, 28, 0, 0) := by decide +kernel
theorem e97_27 : vm_ent 97 27 = some (.iconst 0, 0, 0, 0) := by decide +kernel
theorem e97_28 : vm_ent 97 28 = some (.ior, 0, 0, 0) := by decide +kernel
theorem e97_29 : vm_ent 97 29 = some (.istore_n 2, 0, 0, 0) := by decide +kernel
theorem e97_30 : vm_ent 97 30 = some (.iinc 3 1, 0, 0, 0) := by decide +kernel
theorem e97_33 : vm_ent 97 33 = some (.goto (-29), 4, 0, 0) := by decide +kernel
theorem e97_36 : vm_ent 97 36 = some (.iload_n 2, 0, 0, 0) := by decide +kernel
theorem e97_37 : vm_ent 97 37 = some (.ireturn, 0, 0, 0) := by decide +kernel
theorem e98_0 : vm_ent 98 0 = some (.iconst 0, 0, 0, 0) := by decide +kernel
theorem e98_1 : vm_ent 98 1 = some (.istore_n 2, 0, 0, 0) := by decide +kernel
theorem e98_2 : vm_ent 98 2 = some (.iconst 0, 0, 0, 0) := by decide +kernel
theorem e98_3 : vm_ent 98 3 = some (.istore_n 3, 0, 0, 0) := by decide +kernel
theorem e98_4 : vm_ent 98 4 = some (.iload_n 3, 0, 0, 0) := by decide +kernel
theorem e98_5 : vm_ent 98 5 = some (.aload_n 0, 0, 0, 0) := by decide +kernel
theorem e98_6 : vm_ent 98 6 = some (.getfield 164, 6, 42, 676) := by decide +kernel
theorem e98_9 : vm_ent 98 9 = some (.if_icmp .ge 23, 32, 0, 0) := by decide +kernel
theorem e98_12 : vm_ent 98 12 = some (.iload_n 2, 0, 0, 0) := by decide +kernel
theorem e98_13 : vm_ent 98 13 = some (.ifCond .ne 19, 32, 0, 0) := by decide +kernel
theorem e98_16 : vm_ent 98 16 = some (.aload_n 0, 0, 0, 0) := by decide +kernel
theorem e98_17 : vm_ent 98 17 = some (.bipush 16, 0, 0, 0) := by decide +kernel
theorem e98_19 : vm_ent 98 19 = some (.iload_n 3, 0, 0, 0) := by decide +kernel
theorem e98_20 : vm_ent 98 20 = some (.iadd, 0, 0, 0) := by decide +kernel
theorem e98_21 : vm_ent 98 21 = some (.iload_n 1, 0, 0, 0) := by decide +kernel
theorem e98_22 : vm_ent 98 22 = some (.invokevirtual 174, 84, 4, 865) := by decide +kernel
theorem e98_25 : vm_ent 98 25 = some (.istore_n 2, 0, 0, 0) := by decide +kernel
theorem e98_26 : vm_ent 98 26 = some (.iinc 3 1, 0, 0, 0) := by decide +kernel
theorem e98_29 : vm_ent 98 29 = some (.goto (-25), 4, 0, 0) := by decide +kernel
theorem e98_32 : vm_ent 98 32 = some (.iload_n 2, 0, 0, 0) := by decide +kernel
theorem e98_33 : vm_ent 98 33 = some (.ireturn, 0, 0, 0) := by decide +kernel
theorem e111_0 : vm_ent 111 0 = some (.aload_n 0, 0, 0, 0) := by decide +kernel
theorem e111_1 : vm_ent 111 1 = some (.getfield 13, 6, 3, 637) := by decide +kernel
theorem e111_4 : vm_ent 111 4 = some (.aload_n 0, 0, 0, 0) := by decide +kernel
theorem e111_5 : vm_ent 111 5 = some (.bipush 58, 0, 0, 0) := by decide +kernel
theorem e111_7 : vm_ent 111 7 = some (.iload_n 1, 0, 0, 0) := by decide +kernel
theorem e111_8 : vm_ent 111 8 = some (.iadd, 0, 0, 0) := by decide +kernel
theorem e111_9 : vm_ent 111 9 = some (.invokevirtual 152, 86, 4, 786) := by decide +kernel
theorem e111_12 : vm_ent 111 12 = some (.iaload, 0, 0, 0) := by decide +kernel
theorem e111_13 : vm_ent 111 13 = some (.ireturn, 0, 0, 0) := by decide +kernel
theorem e83_0 : vm_ent 83 0 = some (.lconst 0, 0, 0, 0) := by decide +kernel
theorem e83_1 : vm_ent 83 1 = some (.lstore_n 2, 0, 0, 0) := by decide +kernel
theorem e83_2 : vm_ent 83 2 = some (.iconst 0, 0, 0, 0) := by decide +kernel
theorem e83_3 : vm_ent 83 3 = some (.istore 4, 0, 0, 0) := by decide +kernel
theorem e83_5 : vm_ent 83 5 = some (.iload 4, 0, 0, 0) := by decide +kernel
theorem e83_7 : vm_ent 83 7 = some (.aload_n 0, 0, 0, 0) := by decide +kernel
theorem e83_8 : vm_ent 83 8 = some (.getfield 20, 6, 6, 640) := by decide +kernel
theorem e83_11 : vm_ent 83 11 = some (.iload_n 1, 0, 0, 0) := by decide +kernel
theorem e83_12 : vm_ent 83 12 = some (.iaload, 0, 0, 0) := by decide +kernel
theorem e83_13 : vm_ent 83 13 = some (.if_icmp .ge 26, 39, 0, 0) := by decide +kernel
theorem e83_16 : vm_ent 83 16 = some (.lload_n 2, 0, 0, 0) := by decide +kernel
theorem e83_17 : vm_ent 83 17 = some (.aload_n 0, 0, 0, 0) := by decide +kernel
theorem e83_18 : vm_ent 83 18 = some (.getfield 23, 6, 7, 641) := by decide +kernel
theorem e83_21 : vm_ent 83 21 = some (.bipush 60, 0, 0, 0) := by decide +kernel
theorem e83_23 : vm_ent 83 23 = some (.iload_n 1, 0, 0, 0) := by decide +kernel
theorem e83_24 : vm_ent 83 24 = some (.imul, 0, 0, 0) := by decide +kernel
theorem e83_25 : vm_ent 83 25 = some (.iload 4, 0, 0, 0) := by decide +kernel
theorem e83_27 : vm_ent 83 27 = some (.iadd, 0, 0, 0) := by decide +kernel
theorem e83_28 : vm_ent 83 28 = some (.laload, 0, 0, 0) := by decide +kernel
theorem e83_29 : vm_ent 83 29 = some (.invokestatic 99, 82, 1, 783) := by decide +kernel
theorem e83_32 : vm_ent 83 32 = some (.lstore_n 2, 0, 0, 0) := by decide +kernel
theorem e83_33 : vm_ent 83 33 = some (.iinc 4 1, 0, 0, 0) := by decide +kernel
theorem e83_36 : vm_ent 83 36 = some (.goto (-31), 5, 0, 0) := by decide +kernel
theorem e83_39 : vm_ent 83 39 = some (.aload_n 0, 0, 0, 0) := by decide +kernel
theorem e83_40 : vm_ent 83 40 = some (.getfield 20, 6, 6, 640) := by decide +kernel
theorem e83_43 : vm_ent 83 43 = some (.iload_n 1, 0, 0, 0) := by decide +kernel
theorem e83_44 : vm_ent 83 44 = some (.iaload, 0, 0, 0) := by decide +kernel
theorem e83_45 : vm_ent 83 45 = some (.ifCond .le 20, 65, 0, 0) := by decide +kernel
theorem e83_48 : vm_ent 83 48 = some (.aload_n 0, 0, 0, 0) := by decide +kernel
theorem e83_49 : vm_ent 83 49 = some (.getfield 23, 6, 7, 641) := by decide +kernel
theorem e83_52 : vm_ent 83 52 = some (.bipush 60, 0, 0, 0) := by decide +kernel
theorem e83_54 : vm_ent 83 54 = some (.iload_n 1, 0, 0, 0) := by decide +kernel
theorem e83_55 : vm_ent 83 55 = some (.imul, 0, 0, 0) := by decide +kernel
theorem e83_56 : vm_ent 83 56 = some (.laload, 0, 0, 0) := by decide +kernel
theorem e83_57 : vm_ent 83 57 = some (.lconst 0, 0, 0, 0) := by decide +kernel
theorem e83_58 : vm_ent 83 58 = some (.lcmp, 0, 0, 0) := by decide +kernel
theorem e83_59 : vm_ent 83 59 = some (.ifCond .ge 6, 65, 0, 0) := by decide +kernel
theorem e83_62 : vm_ent 83 62 = some (.lload_n 2, 0, 0, 0) := by decide +kernel
theorem e83_63 : vm_ent 83 63 = some (.lneg, 0, 0, 0) := by decide +kernel
theorem e83_64 : vm_ent 83 64 = some (.lstore_n 2, 0, 0, 0) := by decide +kernel
theorem e83_65 : vm_ent 83 65 = some (.iconst 0, 0, 0, 0) := by decide +kernel
theorem e83_66 : vm_ent 83 66 = some (.istore 4, 0, 0, 0) := by decide +kernel
theorem e83_68 : vm_ent 83 68 = some (.iload 4, 0, 0, 0) := by decide +kernel
theorem e83_70 : vm_ent 83 70 = some (.aload_n 0, 0, 0, 0) := by decide +kernel
theorem e83_71 : vm_ent 83 71 = some (.getfield 20, 6, 6, 640) := by decide +kernel
theorem e83_74 : vm_ent 83 74 = some (.iload_n 1, 0, 0, 0) := by decide +kernel
theorem e83_75 : vm_ent 83 75 = some (.iaload, 0, 0, 0) := by decide +kernel
theorem e83_76 : vm_ent 83 76 = some (.if_icmp .ge 35, 111, 0, 0) := by decide +kernel
theorem e83_79 : vm_ent 83 79 = some (.aload_n 0, 0, 0, 0) := by decide +kernel
theorem e83_80 : vm_ent 83 80 = some (.getfield 23, 6, 7, 641) := by decide +kernel
theorem e83_83 : vm_ent 83 83 = some (.bipush 60, 0, 0, 0) := by decide +kernel
theorem e83_85 : vm_ent 83 85 = some (.iload_n 1, 0, 0, 0) := by decide +kernel
theorem e83_86 : vm_ent 83 86 = some (.imul, 0, 0, 0) := by decide +kernel
theorem e83_87 : vm_ent 83 87 = some (.iload 4, 0, 0, 0) := by decide +kernel
theorem e83_89 : vm_ent 83 89 = some (.iadd, 0, 0, 0) := by decide +kernel
theorem e83_90 : vm_ent 83 90 = some (.aload_n 0, 0, 0, 0) := by decide +kernel
theorem e83_91 : vm_ent 83 91 = some (.getfield 23, 6, 7, 641) := by decide +kernel
theorem e83_94 : vm_ent 83 94 = some (.bipush 60, 0, 0, 0) := by decide +kernel
theorem e83_96 : vm_ent 83 96 = some (.iload_n 1, 0, 0, 0) := by decide +kernel
theorem e83_97 : vm_ent 83 97 = some (.imul, 0, 0, 0) := by decide +kernel
theorem e83_98 : vm_ent 83 98 = some (.iload 4, 0, 0, 0) := by decide +kernel
theorem e83_100 : vm_ent 83 100 = some (.iadd, 0, 0, 0) := by decide +kernel
theorem e83_101 : vm_ent 83 101 = some (.laload, 0, 0, 0) := by decide +kernel
theorem e83_102 : vm_ent 83 102 = some (.lload_n 2, 0, 0, 0) := by decide +kernel
theorem e83_103 : vm_ent 83 103 = some (.ldiv, 0, 0, 0) := by decide +kernel
theorem e83_104 : vm_ent 83 104 = some (.lastore, 0, 0, 0) := by decide +kernel
theorem e83_105 : vm_ent 83 105 = some (.iinc 4 1, 0, 0, 0) := by decide +kernel
theorem e83_108 : vm_ent 83 108 = some (.goto (-40), 68, 0, 0) := by decide +kernel
theorem e83_111 : vm_ent 83 111 = some (.return_, 0, 0, 0) := by decide +kernel
theorem e88_0 : vm_ent 88 0 = some (.lload_n 3, 0, 0, 0) := by decide +kernel
theorem e88_1 : vm_ent 88 1 = some (.ldc2_w 111, 11400714819323198485, 0, 843) := by decide +kernel
theorem e88_4 : vm_ent 88 4 = some (.lmul, 0, 0, 0) := by decide +kernel
theorem e88_5 : vm_ent 88 5 = some (.lstore 5, 0, 0, 0) := by decide +kernel
theorem e88_7 : vm_ent 88 7 = some (.lload 5, 0, 0, 0) := by decide +kernel
theorem e88_9 : vm_ent 88 9 = some (.bipush 50, 0, 0, 0) := by decide +kernel
theorem e88_11 : vm_ent 88 11 = some (.lushr, 0, 0, 0) := by decide +kernel
theorem e88_12 : vm_ent 88 12 = some (.l2i, 0, 0, 0) := by decide +kernel
theorem e88_13 : vm_ent 88 13 = some (.istore 7, 0, 0, 0) := by decide +kernel
theorem e88_15 : vm_ent 88 15 = some (.aload_n 0, 0, 0, 0) := by decide +kernel
theorem e88_16 : vm_ent 88 16 = some (.getfield 72, 6, 36, 670) := by decide +kernel
theorem e88_19 : vm_ent 88 19 = some (.iload 7, 0, 0, 0) := by decide +kernel
theorem e88_21 : vm_ent 88 21 = some (.baload, 0, 0, 0) := by decide +kernel
theorem e88_22 : vm_ent 88 22 = some (.ifCond .eq 28, 50, 0, 0) := by decide +kernel
theorem e88_25 : vm_ent 88 25 = some (.aload_n 0, 0, 0, 0) := by decide +kernel
theorem e88_26 : vm_ent 88 26 = some (.getfield 66, 6, 34, 668) := by decide +kernel
theorem e88_29 : vm_ent 88 29 = some (.iload 7, 0, 0, 0) := by decide +kernel
theorem e88_31 : vm_ent 88 31 = some (.laload, 0, 0, 0) := by decide +kernel
theorem e88_32 : vm_ent 88 32 = some (.lload_n 3, 0, 0, 0) := by decide +kernel
theorem e88_33 : vm_ent 88 33 = some (.lcmp, 0, 0, 0) := by decide +kernel
theorem e88_34 : vm_ent 88 34 = some (.ifCond .eq 16, 50, 0, 0) := by decide +kernel
theorem e88_37 : vm_ent 88 37 = some (.iload 7, 0, 0, 0) := by decide +kernel
theorem e88_39 : vm_ent 88 39 = some (.iconst 1, 0, 0, 0) := by decide +kernel
theorem e88_40 : vm_ent 88 40 = some (.iadd, 0, 0, 0) := by decide +kernel
theorem e88_41 : vm_ent 88 41 = some (.sipush 16384, 0, 0, 0) := by decide +kernel
theorem e88_44 : vm_ent 88 44 = some (.irem, 0, 0, 0) := by decide +kernel
theorem e88_45 : vm_ent 88 45 = some (.istore 7, 0, 0, 0) := by decide +kernel
theorem e88_47 : vm_ent 88 47 = some (.goto (-32), 15, 0, 0) := by decide +kernel
theorem e88_50 : vm_ent 88 50 = some (.aload_n 0, 0, 0, 0) := by decide +kernel
theorem e88_51 : vm_ent 88 51 = some (.getfield 72, 6, 36, 670) := by decide +kernel
theorem e88_54 : vm_ent 88 54 = some (.iload 7, 0, 0, 0) := by decide +kernel
theorem e88_56 : vm_ent 88 56 = some (.baload, 0, 0, 0) := by decide +kernel
theorem e88_57 : vm_ent 88 57 = some (.ifCond .ne 48, 105, 0, 0) := by decide +kernel
theorem e88_60 : vm_ent 88 60 = some (.aload_n 0, 0, 0, 0) := by decide +kernel
theorem e88_61 : vm_ent 88 61 = some (.getfield 72, 6, 36, 670) := by decide +kernel
theorem e88_64 : vm_ent 88 64 = some (.iload 7, 0, 0, 0) := by decide +kernel
theorem e88_66 : vm_ent 88 66 = some (.iconst 1, 0, 0, 0) := by decide +kernel
theorem e88_67 : vm_ent 88 67 = some (.bastore, 0, 0, 0) := by decide +kernel
theorem e88_68 : vm_ent 88 68 = some (.aload_n 0, 0, 0, 0) := by decide +kernel
theorem e88_69 : vm_ent 88 69 = some (.getfield 66, 6, 34, 668) := by decide +kernel
theorem e88_72 : vm_ent 88 72 = some (.iload 7, 0, 0, 0) := by decide +kernel
theorem e88_74 : vm_ent 88 74 = some (.lload_n 3, 0, 0, 0) := by decide +kernel
theorem e88_75 : vm_ent 88 75 = some (.lastore, 0, 0, 0) := by decide +kernel
theorem e88_76 : vm_ent 88 76 = some (.aload_n 0, 0, 0, 0) := by decide +kernel
theorem e88_77 : vm_ent 88 77 = some (.getfield 69, 6, 35, 669) := by decide +kernel
theorem e88_80 : vm_ent 88 80 = some (.iload 7, 0, 0, 0) := by decide +kernel
theorem e88_82 : vm_ent 88 82 = some (.lconst 0, 0, 0, 0) := by decide +kernel
theorem e88_83 : vm_ent 88 83 = some (.lastore, 0, 0, 0) := by decide +kernel
theorem e88_84 : vm_ent 88 84 = some (.aload_n 0, 0, 0, 0) := by decide +kernel
theorem e88_85 : vm_ent 88 85 = some (.getfield 75, 6, 37, 671) := by decide +kernel
theorem e88_88 : vm_ent 88 88 = some (.aload_n 0, 0, 0, 0) := by decide +kernel
theorem e88_89 : vm_ent 88 89 = some (.getfield 113, 6, 38, 672) := by decide +kernel
theorem e88_92 : vm_ent 88 92 = some (.iload 7, 0, 0, 0) := by decide +kernel
theorem e88_94 : vm_ent 88 94 = some (.iastore, 0, 0, 0) := by decide +kernel
theorem e88_95 : vm_ent 88 95 = some (.aload_n 0, 0, 0, 0) := by decide +kernel
theorem e88_96 : vm_ent 88 96 = some (.dup, 0, 0, 0) := by decide +kernel
theorem e88_97 : vm_ent 88 97 = some (.getfield 113, 6, 38, 672) := by decide +kernel
theorem e88_100 : vm_ent 88 100 = some (.iconst 1, 0, 0, 0) := by decide +kernel
theorem e88_101 : vm_ent 88 101 = some (.iadd, 0, 0, 0) := by decide +kernel
theorem e88_102 : vm_ent 88 102 = some (.putfield 113, 6, 38, 672) := by decide +kernel
theorem e88_105 : vm_ent 88 105 = some (.aload_n 0, 0, 0, 0) := by decide +kernel
theorem e88_106 : vm_ent 88 106 = some (.getfield 69, 6, 35, 669) := by decide +kernel
theorem e88_109 : vm_ent 88 109 = some (.iload 7, 0, 0, 0) := by decide +kernel
theorem e88_111 : vm_ent 88 111 = some (.dup2, 0, 0, 0) := by decide +kernel
theorem e88_112 : vm_ent 88 112 = some (.laload, 0, 0, 0) := by decide +kernel
theorem e88_113 : vm_ent 88 113 = some (.lload_n 1, 0, 0, 0) := by decide +kernel
theorem e88_114 : vm_ent 88 114 = some (.ladd, 0, 0, 0) := by decide +kernel
theorem e88_115 : vm_ent 88 115 = some (.lastore, 0, 0, 0) := by decide +kernel
theorem e88_116 : vm_ent 88 116 = some (.return_, 0, 0, 0) := by decide +kernel
theorem e90_0 : vm_ent 90 0 = some (.iconst 0, 0, 0, 0) := by decide +kernel
theorem e90_1 : vm_ent 90 1 = some (.istore_n 2, 0, 0, 0) := by decide +kernel
theorem e90_2 : vm_ent 90 2 = some (.iconst 1, 0, 0, 0) := by decide +kernel
theorem e90_3 : vm_ent 90 3 = some (.istore_n 3, 0, 0, 0) := by decide +kernel
theorem e90_4 : vm_ent 90 4 = some (.iconst 0, 0, 0, 0) := by decide +kernel
theorem e90_5 : vm_ent 90 5 = some (.istore 4, 0, 0, 0) := by decide +kernel
theorem e90_7 : vm_ent 90 7 = some (.iload 4, 0, 0, 0) := by decide +kernel
theorem e90_9 : vm_ent 90 9 = some (.aload_n 0, 0, 0, 0) := by decide +kernel
theorem e90_10 : vm_ent 90 10 = some (.getfield 113, 6, 38, 672) := by decide +kernel
theorem e90_13 : vm_ent 90 13 = some (.if_icmp .ge 127, 140, 0, 0) := by decide +kernel
theorem e90_16 : vm_ent 90 16 = some (.aload_n 0, 0, 0, 0) := by decide +kernel
theorem e90_17 : vm_ent 90 17 = some (.getfield 75, 6, 37, 671) := by decide +kernel
theorem e90_20 : vm_ent 90 20 = some (.iload 4, 0, 0, 0) := by decide +kernel
theorem e90_22 : vm_ent 90 22 = some (.iaload, 0, 0, 0) := by decide +kernel
theorem e90_23 : vm_ent 90 23 = some (.istore 5, 0, 0, 0) := by decide +kernel
theorem e90_25 : vm_ent 90 25 = some (.aload_n 0, 0, 0, 0) := by decide +kernel
theorem e90_26 : vm_ent 90 26 = some (.getfield 69, 6, 35, 669) := by decide +kernel
theorem e90_29 : vm_ent 90 29 = some (.iload 5, 0, 0, 0) := by decide +kernel
theorem e90_31 : vm_ent 90 31 = some (.laload, 0, 0, 0) := by decide +kernel
theorem e90_32 : vm_ent 90 32 = some (.lstore 6, 0, 0, 0) := by decide +kernel
theorem e90_34 : vm_ent 90 34 = some (.aload_n 0, 0, 0, 0) := by decide +kernel
theorem e90_35 : vm_ent 90 35 = some (.getfield 72, 6, 36, 670) := by decide +kernel
theorem e90_38 : vm_ent 90 38 = some (.iload 5, 0, 0, 0) := by decide +kernel
theorem e90_40 : vm_ent 90 40 = some (.iconst 0, 0, 0, 0) := by decide +kernel
theorem e90_41 : vm_ent 90 41 = some (.bastore, 0, 0, 0) := by decide +kernel
theorem e90_42 : vm_ent 90 42 = some (.lload 6, 0, 0, 0) := by decide +kernel
theorem e90_44 : vm_ent 90 44 = some (.lconst 0, 0, 0, 0) := by decide +kernel
theorem e90_45 : vm_ent 90 45 = some (.lcmp, 0, 0, 0) := by decide +kernel
theorem e90_46 : vm_ent 90 46 = some (.ifCond .eq 88, 134, 0, 0) := by decide +kernel
theorem e90_49 : vm_ent 90 49 = some (.iload_n 3, 0, 0, 0) := by decide +kernel
theorem e90_50 : vm_ent 90 50 = some (.ifCond .eq 84, 134, 0, 0) := by decide +kernel
theorem e90_53 : vm_ent 90 53 = some (.iload_n 2, 0, 0, 0) := by decide +kernel
theorem e90_54 : vm_ent 90 54 = some (.bipush 60, 0, 0, 0) := by decide +kernel
theorem e90_56 : vm_ent 90 56 = some (.if_icmp .ge 38, 94, 0, 0) := by decide +kernel
theorem e90_59 : vm_ent 90 59 = some (.lload 6, 0, 0, 0) := by decide +kernel
theorem e90_61 : vm_ent 90 61 = some (.ldc2_w 116, 18446744073642442752, 0, 848) := by decide +kernel
theorem e90_64 : vm_ent 90 64 = some (.lcmp, 0, 0, 0) := by decide +kernel
theorem e90_65 : vm_ent 90 65 = some (.ifCond .lt 29, 94, 0, 0) := by decide +kernel
theorem e90_68 : vm_ent 90 68 = some (.lload 6, 0, 0, 0) := by decide +kernel
theorem e90_70 : vm_ent 90 70 = some (.ldc2_w 118, 67108864, 0, 849) := by decide +kernel
theorem e90_73 : vm_ent 90 73 = some (.lcmp, 0, 0, 0) := by decide +kernel
theorem e90_74 : vm_ent 90 74 = some (.ifCond .gt 20, 94, 0, 0) := by decide +kernel
theorem e90_77 : vm_ent 90 77 = some (.aload_n 0, 0, 0, 0) := by decide +kernel
theorem e90_78 : vm_ent 90 78 = some (.getfield 66, 6, 34, 668) := by decide +kernel
theorem e90_81 : vm_ent 90 81 = some (.iload 5, 0, 0, 0) := by decide +kernel
theorem e90_83 : vm_ent 90 83 = some (.laload, 0, 0, 0) := by decide +kernel
theorem e90_84 : vm_ent 90 84 = some (.invokestatic 120, 89, 1, 850) := by decide +kernel
theorem e90_87 : vm_ent 90 87 = some (.ifCond .eq 7, 94, 0, 0) := by decide +kernel
theorem e90_90 : vm_ent 90 90 = some (.iconst 1, 0, 0, 0) := by decide +kernel
theorem e90_91 : vm_ent 90 91 = some (.goto 4, 95, 0, 0) := by decide +kernel
theorem e90_94 : vm_ent 90 94 = some (.iconst 0, 0, 0, 0) := by decide +kernel
theorem e90_95 : vm_ent 90 95 = some (.istore_n 3, 0, 0, 0) := by decide +kernel
theorem e90_96 : vm_ent 90 96 = some (.iload_n 3, 0, 0, 0) := by decide +kernel
theorem e90_97 : vm_ent 90 97 = some (.ifCond .eq 37, 134, 0, 0) := by decide +kernel
theorem e90_100 : vm_ent 90 100 = some (.aload_n 0, 0, 0, 0) := by decide +kernel
theorem e90_101 : vm_ent 90 101 = some (.getfield 23, 6, 7, 641) := by decide +kernel
theorem e90_104 : vm_ent 90 104 = some (.bipush 60, 0, 0, 0) := by decide +kernel
theorem e90_106 : vm_ent 90 106 = some (.iload_n 1, 0, 0, 0) := by decide +kernel
theorem e90_107 : vm_ent 90 107 = some (.imul, 0, 0, 0) := by decide +kernel
theorem e90_108 : vm_ent 90 108 = some (.iload_n 2, 0, 0, 0) := by decide +kernel
theorem e90_109 : vm_ent 90 109 = some (.iadd, 0, 0, 0) := by decide +kernel
theorem e90_110 : vm_ent 90 110 = some (.lload 6, 0, 0, 0) := by decide +kernel
theorem e90_112 : vm_ent 90 112 = some (.lastore, 0, 0, 0) := by decide +kernel
theorem e90_113 : vm_ent 90 113 = some (.aload_n 0, 0, 0, 0) := by decide +kernel
theorem e90_114 : vm_ent 90 114 = some (.getfield 27, 6, 8, 642) := by decide +kernel
theorem e90_117 : vm_ent 90 117 = some (.bipush 60, 0, 0, 0) := by decide +kernel
theorem e90_119 : vm_ent 90 119 = some (.iload_n 1, 0, 0, 0) := by decide +kernel
theorem e90_120 : vm_ent 90 120 = some (.imul, 0, 0, 0) := by decide +kernel
theorem e90_121 : vm_ent 90 121 = some (.iload_n 2, 0, 0, 0) := by decide +kernel
theorem e90_122 : vm_ent 90 122 = some (.iadd, 0, 0, 0) := by decide +kernel
theorem e90_123 : vm_ent 90 123 = some (.aload_n 0, 0, 0, 0) := by decide +kernel
theorem e90_124 : vm_ent 90 124 = some (.getfield 66, 6, 34, 668) := by decide +kernel
theorem e90_127 : vm_ent 90 127 = some (.iload 5, 0, 0, 0) := by decide +kernel
theorem e90_129 : vm_ent 90 129 = some (.laload, 0, 0, 0) := by decide +kernel
theorem e90_130 : vm_ent 90 130 = some (.lastore, 0, 0, 0) := by decide +kernel
theorem e90_131 : vm_ent 90 131 = some (.iinc 2 1, 0, 0, 0) := by decide +kernel
theorem e90_134 : vm_ent 90 134 = some (.iinc 4 1, 0, 0, 0) := by decide +kernel
theorem e90_137 : vm_ent 90 137 = some (.goto (-130), 7, 0, 0) := by decide +kernel
theorem e90_140 : vm_ent 90 140 = some (.aload_n 0, 0, 0, 0) := by decide +kernel
theorem e90_141 : vm_ent 90 141 = some (.iconst 0, 0, 0, 0) := by decide +kernel
theorem e90_142 : vm_ent 90 142 = some (.putfield 113, 6, 38, 672) := by decide +kernel
theorem e90_145 : vm_ent 90 145 = some (.aload_n 0, 0, 0, 0) := by decide +kernel
theorem e90_146 : vm_ent 90 146 = some (.getfield 20, 6, 6, 640) := by decide +kernel
theorem e90_149 : vm_ent 90 149 = some (.iload_n 1, 0, 0, 0) := by decide +kernel
theorem e90_150 : vm_ent 90 150 = some (.iload_n 2, 0, 0, 0) := by decide +kernel
theorem e90_151 : vm_ent 90 151 = some (.iastore, 0, 0, 0) := by decide +kernel
theorem e90_152 : vm_ent 90 152 = some (.iload_n 3, 0, 0, 0) := by decide +kernel
theorem e90_153 : vm_ent 90 153 = some (.ifCond .eq 8, 161, 0, 0) := by decide +kernel
theorem e90_156 : vm_ent 90 156 = some (.aload_n 0, 0, 0, 0) := by decide +kernel
theorem e90_157 : vm_ent 90 157 = some (.iload_n 1, 0, 0, 0) := by decide +kernel
theorem e90_158 : vm_ent 90 158 = some (.invokevirtual 124, 80, 4, 853) := by decide +kernel
theorem e90_161 : vm_ent 90 161 = some (.iload_n 3, 0, 0, 0) := by decide +kernel
theorem e90_162 : vm_ent 90 162 = some (.ireturn, 0, 0, 0) := by decide +kernel
theorem e91_0 : vm_ent 91 0 = some (.aload_n 0, 0, 0, 0) := by decide +kernel
theorem e91_1 : vm_ent 91 1 = some (.bipush 69, 0, 0, 0) := by decide +kernel
theorem e91_3 : vm_ent 91 3 = some (.iload_n 2, 0, 0, 0) := by decide +kernel
theorem e91_4 : vm_ent 91 4 = some (.invokevirtual 103, 85, 4, 790) := by decide +kernel
theorem e91_7 : vm_ent 91 7 = some (.istore 4, 0, 0, 0) := by decide +kernel
theorem e91_9 : vm_ent 91 9 = some (.aload_n 0, 0, 0, 0) := by decide +kernel
theorem e91_10 : vm_ent 91 10 = some (.iload_n 1, 0, 0, 0) := by decide +kernel
theorem e91_11 : vm_ent 91 11 = some (.iload_n 2, 0, 0, 0) := by decide +kernel
theorem e91_12 : vm_ent 91 12 = some (.iload_n 3, 0, 0, 0) := by decide +kernel
theorem e91_13 : vm_ent 91 13 = some (.invokevirtual 128, 87, 4, 829) := by decide +kernel
theorem e91_16 : vm_ent 91 16 = some (.iconst 0, 0, 0, 0) := by decide +kernel
theorem e91_17 : vm_ent 91 17 = some (.istore 5, 0, 0, 0) := by decide +kernel
theorem e91_19 : vm_ent 91 19 = some (.iload 5, 0, 0, 0) := by decide +kernel
theorem e91_21 : vm_ent 91 21 = some (.aload_n 0, 0, 0, 0) := by decide +kernel
theorem e91_22 : vm_ent 91 22 = some (.getfield 20, 6, 6, 640) := by decide +kernel
theorem e91_25 : vm_ent 91 25 = some (.bipush 69, 0, 0, 0) := by decide +kernel
theorem e91_27 : vm_ent 91 27 = some (.iaload, 0, 0, 0) := by decide +kernel
theorem e91_28 : vm_ent 91 28 = some (.if_icmp .ge 80, 108, 0, 0) := by decide +kernel
theorem e91_31 : vm_ent 91 31 = some (.iconst 0, 0, 0, 0) := by decide +kernel
theorem e91_32 : vm_ent 91 32 = some (.istore 6, 0, 0, 0) := by decide +kernel
theorem e91_34 : vm_ent 91 34 = some (.iload 6, 0, 0, 0) := by decide +kernel
theorem e91_36 : vm_ent 91 36 = some (.aload_n 0, 0, 0, 0) := by decide +kernel
theorem e91_37 : vm_ent 91 37 = some (.getfield 20, 6, 6, 640) := by decide +kernel
theorem e91_40 : vm_ent 91 40 = some (.bipush 70, 0, 0, 0) := by decide +kernel
theorem e91_42 : vm_ent 91 42 = some (.iaload, 0, 0, 0) := by decide +kernel
theorem e91_43 : vm_ent 91 43 = some (.if_icmp .ge 59, 102, 0, 0) := by decide +kernel
theorem e91_46 : vm_ent 91 46 = some (.aload_n 0, 0, 0, 0) := by decide +kernel
theorem e91_47 : vm_ent 91 47 = some (.aload_n 0, 0, 0, 0) := by decide +kernel
theorem e91_48 : vm_ent 91 48 = some (.getfield 23, 6, 7, 641) := by decide +kernel
theorem e91_51 : vm_ent 91 51 = some (.sipush 4140, 0, 0, 0) := by decide +kernel
theorem e91_54 : vm_ent 91 54 = some (.iload 5, 0, 0, 0) := by decide +kernel
theorem e91_56 : vm_ent 91 56 = some (.iadd, 0, 0, 0) := by decide +kernel
theorem e91_57 : vm_ent 91 57 = some (.laload, 0, 0, 0) := by decide +kernel
theorem e91_58 : vm_ent 91 58 = some (.aload_n 0, 0, 0, 0) := by decide +kernel
theorem e91_59 : vm_ent 91 59 = some (.getfield 23, 6, 7, 641) := by decide +kernel
theorem e91_62 : vm_ent 91 62 = some (.sipush 4200, 0, 0, 0) := by decide +kernel
theorem e91_65 : vm_ent 91 65 = some (.iload 6, 0, 0, 0) := by decide +kernel
theorem e91_67 : vm_ent 91 67 = some (.iadd, 0, 0, 0) := by decide +kernel
theorem e91_68 : vm_ent 91 68 = some (.laload, 0, 0, 0) := by decide +kernel
theorem e91_69 : vm_ent 91 69 = some (.lmul, 0, 0, 0) := by decide +kernel
theorem e91_70 : vm_ent 91 70 = some (.aload_n 0, 0, 0, 0) := by decide +kernel
theorem e91_71 : vm_ent 91 71 = some (.getfield 27, 6, 8, 642) := by decide +kernel
theorem e91_74 : vm_ent 91 74 = some (.sipush 4140, 0, 0, 0) := by decide +kernel
theorem e91_77 : vm_ent 91 77 = some (.iload 5, 0, 0, 0) := by decide +kernel
theorem e91_79 : vm_ent 91 79 = some (.iadd, 0, 0, 0) := by decide +kernel
theorem e91_80 : vm_ent 91 80 = some (.laload, 0, 0, 0) := by decide +kernel
theorem e91_81 : vm_ent 91 81 = some (.aload_n 0, 0, 0, 0) := by decide +kernel
theorem e91_82 : vm_ent 91 82 = some (.getfield 27, 6, 8, 642) := by decide +kernel
theorem e91_85 : vm_ent 91 85 = some (.sipush 4200, 0, 0, 0) := by decide +kernel
theorem e91_88 : vm_ent 91 88 = some (.iload 6, 0, 0, 0) := by decide +kernel
theorem e91_90 : vm_ent 91 90 = some (.iadd, 0, 0, 0) := by decide +kernel
theorem e91_91 : vm_ent 91 91 = some (.laload, 0, 0, 0) := by decide +kernel
theorem e91_92 : vm_ent 91 92 = some (.ladd, 0, 0, 0) := by decide +kernel
theorem e91_93 : vm_ent 91 93 = some (.invokevirtual 132, 88, 4, 839) := by decide +kernel
theorem e91_96 : vm_ent 91 96 = some (.iinc 6 1, 0, 0, 0) := by decide +kernel
theorem e91_99 : vm_ent 91 99 = some (.goto (-65), 34, 0, 0) := by decide +kernel
theorem e91_102 : vm_ent 91 102 = some (.iinc 5 1, 0, 0, 0) := by decide +kernel
theorem e91_105 : vm_ent 91 105 = some (.goto (-86), 19, 0, 0) := by decide +kernel
theorem e91_108 : vm_ent 91 108 = some (.aload_n 0, 0, 0, 0) := by decide +kernel
theorem e91_109 : vm_ent 91 109 = some (.bipush 69, 0, 0, 0) := by decide +kernel
theorem e91_111 : vm_ent 91 111 = some (.iload_n 2, 0, 0, 0) := by decide +kernel
theorem e91_112 : vm_ent 91 112 = some (.iload 4, 0, 0, 0) := by decide +kernel
theorem e91_114 : vm_ent 91 114 = some (.invokevirtual 128, 87, 4, 829) := by decide +kernel
theorem e91_117 : vm_ent 91 117 = some (.iload 4, 0, 0, 0) := by decide +kernel
theorem e91_119 : vm_ent 91 119 = some (.iload_n 3, 0, 0, 0) := by decide +kernel
theorem e91_120 : vm_ent 91 120 = some (.isub, 0, 0, 0) := by decide +kernel
theorem e91_121 : vm_ent 91 121 = some (.i2l, 0, 0, 0) := by decide +kernel
theorem e91_122 : vm_ent 91 122 = some (.bipush 8, 0, 0, 0) := by decide +kernel
theorem e91_124 : vm_ent 91 124 = some (.iload_n 2, 0, 0, 0) := by decide +kernel
theorem e91_125 : vm_ent 91 125 = some (.imul, 0, 0, 0) := by decide +kernel
theorem e91_126 : vm_ent 91 126 = some (.lshl, 0, 0, 0) := by decide +kernel
theorem e91_127 : vm_ent 91 127 = some (.lstore 5, 0, 0, 0) := by decide +kernel
theorem e91_129 : vm_ent 91 129 = some (.iconst 0, 0, 0, 0) := by decide +kernel
theorem e91_130 : vm_ent 91 130 = some (.istore 7, 0, 0, 0) := by decide +kernel
theorem e91_132 : vm_ent 91 132 = some (.iload 7, 0, 0, 0) := by decide +kernel
theorem e91_134 : vm_ent 91 134 = some (.aload_n 0, 0, 0, 0) := by decide +kernel
theorem e91_135 : vm_ent 91 135 = some (.getfield 20, 6, 6, 640) := by decide +kernel
theorem e91_138 : vm_ent 91 138 = some (.bipush 70, 0, 0, 0) := by decide +kernel
theorem e91_140 : vm_ent 91 140 = some (.iaload, 0, 0, 0) := by decide +kernel
theorem e91_141 : vm_ent 91 141 = some (.if_icmp .ge 85, 226, 0, 0) := by decide +kernel
theorem e91_144 : vm_ent 91 144 = some (.iconst 0, 0, 0, 0) := by decide +kernel
theorem e91_145 : vm_ent 91 145 = some (.istore 8, 0, 0, 0) := by decide +kernel
theorem e91_147 : vm_ent 91 147 = some (.iload 8, 0, 0, 0) := by decide +kernel
theorem e91_149 : vm_ent 91 149 = some (.aload_n 0, 0, 0, 0) := by decide +kernel
theorem e91_150 : vm_ent 91 150 = some (.getfield 20, 6, 6, 640) := by decide +kernel
theorem e91_153 : vm_ent 91 153 = some (.iload_n 1, 0, 0, 0) := by decide +kernel
theorem e91_154 : vm_ent 91 154 = some (.iaload, 0, 0, 0) := by decide +kernel
theorem e91_155 : vm_ent 91 155 = some (.if_icmp .ge 65, 220, 0, 0) := by decide +kernel
theorem e91_158 : vm_ent 91 158 = some (.aload_n 0, 0, 0, 0) := by decide +kernel
theorem e91_159 : vm_ent 91 159 = some (.aload_n 0, 0, 0, 0) := by decide +kernel
theorem e91_160 : vm_ent 91 160 = some (.getfield 23, 6, 7, 641) := by decide +kernel
theorem e91_163 : vm_ent 91 163 = some (.sipush 4200, 0, 0, 0) := by decide +kernel
theorem e91_166 : vm_ent 91 166 = some (.iload 7, 0, 0, 0) := by decide +kernel
theorem e91_168 : vm_ent 91 168 = some (.iadd, 0, 0, 0) := by decide +kernel
theorem e91_169 : vm_ent 91 169 = some (.laload, 0, 0, 0) := by decide +kernel
theorem e91_170 : vm_ent 91 170 = some (.lneg, 0, 0, 0) := by decide +kernel
theorem e91_171 : vm_ent 91 171 = some (.aload_n 0, 0, 0, 0) := by decide +kernel
theorem e91_172 : vm_ent 91 172 = some (.getfield 23, 6, 7, 641) := by decide +kernel
theorem e91_175 : vm_ent 91 175 = some (.bipush 60, 0, 0, 0) := by decide +kernel
theorem e91_177 : vm_ent 91 177 = some (.iload_n 1, 0, 0, 0) := by decide +kernel
theorem e91_178 : vm_ent 91 178 = some (.imul, 0, 0, 0) := by decide +kernel
theorem e91_179 : vm_ent 91 179 = some (.iload 8, 0, 0, 0) := by decide +kernel
theorem e91_181 : vm_ent 91 181 = some (.iadd, 0, 0, 0) := by decide +kernel
theorem e91_182 : vm_ent 91 182 = some (.laload, 0, 0, 0) := by decide +kernel
theorem e91_183 : vm_ent 91 183 = some (.lmul, 0, 0, 0) := by decide +kernel
theorem e91_184 : vm_ent 91 184 = some (.aload_n 0, 0, 0, 0) := by decide +kernel
theorem e91_185 : vm_ent 91 185 = some (.getfield 27, 6, 8, 642) := by decide +kernel
theorem e91_188 : vm_ent 91 188 = some (.sipush 4200, 0, 0, 0) := by decide +kernel
theorem e91_191 : vm_ent 91 191 = some (.iload 7, 0, 0, 0) := by decide +kernel
theorem e91_193 : vm_ent 91 193 = some (.iadd, 0, 0, 0) := by decide +kernel
theorem e91_194 : vm_ent 91 194 = some (.laload, 0, 0, 0) := by decide +kernel
theorem e91_195 : vm_ent 91 195 = some (.lload 5, 0, 0, 0) := by decide +kernel
theorem e91_197 : vm_ent 91 197 = some (.ladd, 0, 0, 0) := by decide +kernel
theorem e91_198 : vm_ent 91 198 = some (.aload_n 0, 0, 0, 0) := by decide +kernel
theorem e91_199 : vm_ent 91 199 = some (.getfield 27, 6, 8, 642) := by decide +kernel
theorem e91_202 : vm_ent 91 202 = some (.bipush 60, 0, 0, 0) := by decide +kernel
theorem e91_204 : vm_ent 91 204 = some (.iload_n 1, 0, 0, 0) := by decide +kernel
theorem e91_205 : vm_ent 91 205 = some (.imul, 0, 0, 0) := by decide +kernel
theorem e91_206 : vm_ent 91 206 = some (.iload 8, 0, 0, 0) := by decide +kernel
theorem e91_208 : vm_ent 91 208 = some (.iadd, 0, 0, 0) := by decide +kernel
theorem e91_209 : vm_ent 91 209 = some (.laload, 0, 0, 0) := by decide +kernel
theorem e91_210 : vm_ent 91 210 = some (.ladd, 0, 0, 0) := by decide +kernel
theorem e91_211 : vm_ent 91 211 = some (.invokevirtual 132, 88, 4, 839) := by decide +kernel
theorem e91_214 : vm_ent 91 214 = some (.iinc 8 1, 0, 0, 0) := by decide +kernel
theorem e91_217 : vm_ent 91 217 = some (.goto (-70), 147, 0, 0) := by decide +kernel
theorem e91_220 : vm_ent 91 220 = some (.iinc 7 1, 0, 0, 0) := by decide +kernel
theorem e91_223 : vm_ent 91 223 = some (.goto (-91), 132, 0, 0) := by decide +kernel
theorem e91_226 : vm_ent 91 226 = some (.aload_n 0, 0, 0, 0) := by decide +kernel
theorem e91_227 : vm_ent 91 227 = some (.bipush 69, 0, 0, 0) := by decide +kernel
theorem e91_229 : vm_ent 91 229 = some (.invokevirtual 136, 90, 4, 844) := by decide +kernel
theorem e91_232 : vm_ent 91 232 = some (.ireturn, 0, 0, 0) := by decide +kernel
theorem e92_0 : vm_ent 92 0 = some (.aload_n 0, 0, 0, 0) := by decide +kernel
theorem e92_1 : vm_ent 92 1 = some (.bipush 69, 0, 0, 0) := by decide +kernel
theorem e92_3 : vm_ent 92 3 = some (.iload_n 3, 0, 0, 0) := by decide +kernel
theorem e92_4 : vm_ent 92 4 = some (.iload_n 2, 0, 0, 0) := by decide +kernel
theorem e92_5 : vm_ent 92 5 = some (.invokevirtual 128, 87, 4, 829) := by decide +kernel
theorem e92_8 : vm_ent 92 8 = some (.aload_n 0, 0, 0, 0) := by decide +kernel
theorem e92_9 : vm_ent 92 9 = some (.getfield 51, 6, 29, 663) := by decide +kernel
theorem e92_12 : vm_ent 92 12 = some (.aload_n 0, 0, 0, 0) := by decide +kernel
theorem e92_13 : vm_ent 92 13 = some (.getfield 140, 6, 27, 661) := by decide +kernel
theorem e92_16 : vm_ent 92 16 = some (.iload_n 1, 0, 0, 0) := by decide +kernel
theorem e92_17 : vm_ent 92 17 = some (.iastore, 0, 0, 0) := by decide +kernel
theorem e92_18 : vm_ent 92 18 = some (.aload_n 0, 0, 0, 0) := by decide +kernel
theorem e92_19 : vm_ent 92 19 = some (.getfield 54, 6, 30, 664) := by decide +kernel
theorem e92_22 : vm_ent 92 22 = some (.aload_n 0, 0, 0, 0) := by decide +kernel
theorem e92_23 : vm_ent 92 23 = some (.getfield 140, 6, 27, 661) := by decide +kernel
theorem e92_26 : vm_ent 92 26 = some (.aload_n 0, 0, 0, 0) := by decide +kernel
theorem e92_27 : vm_ent 92 27 = some (.getfield 143, 6, 28, 662) := by decide +kernel
theorem e92_30 : vm_ent 92 30 = some (.iastore, 0, 0, 0) := by decide +kernel
theorem e92_31 : vm_ent 92 31 = some (.aload_n 0, 0, 0, 0) := by decide +kernel
theorem e92_32 : vm_ent 92 32 = some (.getfield 57, 6, 31, 665) := by decide +kernel
theorem e92_35 : vm_ent 92 35 = some (.aload_n 0, 0, 0, 0) := by decide +kernel
theorem e92_36 : vm_ent 92 36 = some (.getfield 140, 6, 27, 661) := by decide +kernel
theorem e92_39 : vm_ent 92 39 = some (.aload_n 0, 0, 0, 0) := by decide +kernel
theorem e92_40 : vm_ent 92 40 = some (.getfield 20, 6, 6, 640) := by decide +kernel
theorem e92_43 : vm_ent 92 43 = some (.bipush 70, 0, 0, 0) := by decide +kernel
theorem e92_45 : vm_ent 92 45 = some (.iaload, 0, 0, 0) := by decide +kernel
theorem e92_46 : vm_ent 92 46 = some (.iastore, 0, 0, 0) := by decide +kernel
theorem e92_47 : vm_ent 92 47 = some (.iconst 0, 0, 0, 0) := by decide +kernel
theorem e92_48 : vm_ent 92 48 = some (.istore 5, 0, 0, 0) := by decide +kernel
theorem e92_50 : vm_ent 92 50 = some (.iload 5, 0, 0, 0) := by decide +kernel
theorem e92_52 : vm_ent 92 52 = some (.aload_n 0, 0, 0, 0) := by decide +kernel
theorem e92_53 : vm_ent 92 53 = some (.getfield 20, 6, 6, 640) := by decide +kernel
theorem e92_56 : vm_ent 92 56 = some (.bipush 70, 0, 0, 0) := by decide +kernel
theorem e92_58 : vm_ent 92 58 = some (.iaload, 0, 0, 0) := by decide +kernel
theorem e92_59 : vm_ent 92 59 = some (.if_icmp .ge 70, 129, 0, 0) := by decide +kernel
theorem e92_62 : vm_ent 92 62 = some (.aload_n 0, 0, 0, 0) := by decide +kernel
theorem e92_63 : vm_ent 92 63 = some (.getfield 60, 6, 32, 666) := by decide +kernel
theorem e92_66 : vm_ent 92 66 = some (.aload_n 0, 0, 0, 0) := by decide +kernel
theorem e92_67 : vm_ent 92 67 = some (.getfield 143, 6, 28, 662) := by decide +kernel
theorem e92_70 : vm_ent 92 70 = some (.aload_n 0, 0, 0, 0) := by decide +kernel
theorem e92_71 : vm_ent 92 71 = some (.getfield 23, 6, 7, 641) := by decide +kernel
theorem e92_74 : vm_ent 92 74 = some (.sipush 4200, 0, 0, 0) := by decide +kernel
theorem e92_77 : vm_ent 92 77 = some (.iload 5, 0, 0, 0) := by decide +kernel
theorem e92_79 : vm_ent 92 79 = some (.iadd, 0, 0, 0) := by decide +kernel
theorem e92_80 : vm_ent 92 80 = some (.laload, 0, 0, 0) := by decide +kernel
theorem e92_81 : vm_ent 92 81 = some (.lastore, 0, 0, 0) := by decide +kernel
theorem e92_82 : vm_ent 92 82 = some (.aload_n 0, 0, 0, 0) := by decide +kernel
theorem e92_83 : vm_ent 92 83 = some (.getfield 63, 6, 33, 667) := by decide +kernel
theorem e92_86 : vm_ent 92 86 = some (.aload_n 0, 0, 0, 0) := by decide +kernel
theorem e92_87 : vm_ent 92 87 = some (.getfield 143, 6, 28, 662) := by decide +kernel
theorem e92_90 : vm_ent 92 90 = some (.aload_n 0, 0, 0, 0) := by decide +kernel
theorem e92_91 : vm_ent 92 91 = some (.getfield 27, 6, 8, 642) := by decide +kernel
theorem e92_94 : vm_ent 92 94 = some (.sipush 4200, 0, 0, 0) := by decide +kernel
theorem e92_97 : vm_ent 92 97 = some (.iload 5, 0, 0, 0) := by decide +kernel
theorem e92_99 : vm_ent 92 99 = some (.iadd, 0, 0, 0) := by decide +kernel
theorem e92_100 : vm_ent 92 100 = some (.laload, 0, 0, 0) := by decide +kernel
theorem e92_101 : vm_ent 92 101 = some (.iload_n 2, 0, 0, 0) := by decide +kernel
theorem e92_102 : vm_ent 92 102 = some (.iload 4, 0, 0, 0) := by decide +kernel
theorem e92_104 : vm_ent 92 104 = some (.isub, 0, 0, 0) := by decide +kernel
theorem e92_105 : vm_ent 92 105 = some (.i2l, 0, 0, 0) := by decide +kernel
theorem e92_106 : vm_ent 92 106 = some (.bipush 8, 0, 0, 0) := by decide +kernel
theorem e92_108 : vm_ent 92 108 = some (.iload_n 3, 0, 0, 0) := by decide +kernel
theorem e92_109 : vm_ent 92 109 = some (.imul, 0, 0, 0) := by decide +kernel
theorem e92_110 : vm_ent 92 110 = some (.lshl, 0, 0, 0) := by decide +kernel
theorem e92_111 : vm_ent 92 111 = some (.ladd, 0, 0, 0) := by decide +kernel
theorem e92_112 : vm_ent 92 112 = some (.lastore, 0, 0, 0) := by decide +kernel
theorem e92_113 : vm_ent 92 113 = some (.aload_n 0, 0, 0, 0) := by decide +kernel
theorem e92_114 : vm_ent 92 114 = some (.dup, 0, 0, 0) := by decide +kernel
theorem e92_115 : vm_ent 92 115 = some (.getfield 143, 6, 28, 662) := by decide +kernel
theorem e92_118 : vm_ent 92 118 = some (.iconst 1, 0, 0, 0) := by decide +kernel
theorem e92_119 : vm_ent 92 119 = some (.iadd, 0, 0, 0) := by decide +kernel
theorem e92_120 : vm_ent 92 120 = some (.putfield 143, 6, 28, 662) := by decide +kernel
theorem e92_123 : vm_ent 92 123 = some (.iinc 5 1, 0, 0, 0) := by decide +kernel
theorem e92_126 : vm_ent 92 126 = some (.goto (-76), 50, 0, 0) := by decide +kernel
theorem e92_129 : vm_ent 92 129 = some (.aload_n 0, 0, 0, 0) := by decide +kernel
theorem e92_130 : vm_ent 92 130 = some (.dup, 0, 0, 0) := by decide +kernel
theorem e92_131 : vm_ent 92 131 = some (.getfield 140, 6, 27, 661) := by decide +kernel
theorem e92_134 : vm_ent 92 134 = some (.iconst 1, 0, 0, 0) := by decide +kernel
theorem e92_135 : vm_ent 92 135 = some (.iadd, 0, 0, 0) := by decide +kernel
theorem e92_136 : vm_ent 92 136 = some (.putfield 140, 6, 27, 661) := by decide +kernel
theorem e92_139 : vm_ent 92 139 = some (.return_, 0, 0, 0) := by decide +kernel
theorem e93_0 : vm_ent 93 0 = some (.aload_n 0, 0, 0, 0) := by decide +kernel
theorem e93_1 : vm_ent 93 1 = some (.iconst 0, 0, 0, 0) := by decide +kernel
theorem e93_2 : vm_ent 93 2 = some (.putfield 146, 6, 41, 675) := by decide +kernel
theorem e93_5 : vm_ent 93 5 = some (.aload_n 0, 0, 0, 0) := by decide +kernel
theorem e93_6 : vm_ent 93 6 = some (.getfield 149, 6, 40, 674) := by decide +kernel
theorem e93_9 : vm_ent 93 9 = some (.iconst 1, 0, 0, 0) := by decide +kernel
theorem e93_10 : vm_ent 93 10 = some (.isub, 0, 0, 0) := by decide +kernel
theorem e93_11 : vm_ent 93 11 = some (.istore_n 3, 0, 0, 0) := by decide +kernel
theorem e93_12 : vm_ent 93 12 = some (.iload_n 3, 0, 0, 0) := by decide +kernel
theorem e93_13 : vm_ent 93 13 = some (.ifCond .lt 126, 139, 0, 0) := by decide +kernel
theorem e93_16 : vm_ent 93 16 = some (.aload_n 0, 0, 0, 0) := by decide +kernel
theorem e93_17 : vm_ent 93 17 = some (.getfield 13, 6, 3, 637) := by decide +kernel
theorem e93_20 : vm_ent 93 20 = some (.aload_n 0, 0, 0, 0) := by decide +kernel
theorem e93_21 : vm_ent 93 21 = some (.aload_n 0, 0, 0, 0) := by decide +kernel
theorem e93_22 : vm_ent 93 22 = some (.getfield 78, 6, 39, 673) := by decide +kernel
theorem e93_25 : vm_ent 93 25 = some (.iload_n 3, 0, 0, 0) := by decide +kernel
theorem e93_26 : vm_ent 93 26 = some (.iaload, 0, 0, 0) := by decide +kernel
theorem e93_27 : vm_ent 93 27 = some (.invokevirtual 152, 86, 4, 786) := by decide +kernel
theorem e93_30 : vm_ent 93 30 = some (.iaload, 0, 0, 0) := by decide +kernel
theorem e93_31 : vm_ent 93 31 = some (.istore 4, 0, 0, 0) := by decide +kernel
theorem e93_33 : vm_ent 93 33 = some (.aload_n 0, 0, 0, 0) := by decide +kernel
theorem e93_34 : vm_ent 93 34 = some (.aload_n 0, 0, 0, 0) := by decide +kernel
theorem e93_35 : vm_ent 93 35 = some (.getfield 78, 6, 39, 673) := by decide +kernel
theorem e93_38 : vm_ent 93 38 = some (.iload_n 3, 0, 0, 0) := by decide +kernel
theorem e93_39 : vm_ent 93 39 = some (.iaload, 0, 0, 0) := by decide +kernel
theorem e93_40 : vm_ent 93 40 = some (.iload 4, 0, 0, 0) := by decide +kernel
theorem e93_42 : vm_ent 93 42 = some (.invokevirtual 103, 85, 4, 790) := by decide +kernel
theorem e93_45 : vm_ent 93 45 = some (.istore 5, 0, 0, 0) := by decide +kernel
theorem e93_47 : vm_ent 93 47 = some (.aload_n 0, 0, 0, 0) := by decide +kernel
theorem e93_48 : vm_ent 93 48 = some (.getfield 20, 6, 6, 640) := by decide +kernel
theorem e93_51 : vm_ent 93 51 = some (.bipush 69, 0, 0, 0) := by decide +kernel
theorem e93_53 : vm_ent 93 53 = some (.iaload, 0, 0, 0) := by decide +kernel
theorem e93_54 : vm_ent 93 54 = some (.ifCond .le 79, 133, 0, 0) := by decide +kernel
theorem e93_57 : vm_ent 93 57 = some (.aload_n 0, 0, 0, 0) := by decide +kernel
theorem e93_58 : vm_ent 93 58 = some (.bipush 69, 0, 0, 0) := by decide +kernel
theorem e93_60 : vm_ent 93 60 = some (.iload 4, 0, 0, 0) := by decide +kernel
theorem e93_62 : vm_ent 93 62 = some (.invokevirtual 103, 85, 4, 790) := by decide +kernel
theorem e93_65 : vm_ent 93 65 = some (.iload 5, 0, 0, 0) := by decide +kernel
theorem e93_67 : vm_ent 93 67 = some (.if_icmp .lt 66, 133, 0, 0) := by decide +kernel
theorem e93_70 : vm_ent 93 70 = some (.aload_n 0, 0, 0, 0) := by decide +kernel
theorem e93_71 : vm_ent 93 71 = some (.getfield 146, 6, 41, 675) := by decide +kernel
theorem e93_74 : vm_ent 93 74 = some (.iload_n 2, 0, 0, 0) := by decide +kernel
theorem e93_75 : vm_ent 93 75 = some (.if_icmp .ne 5, 80, 0, 0) := by decide +kernel
theorem e93_78 : vm_ent 93 78 = some (.iconst 0, 0, 0, 0) := by decide +kernel
theorem e93_79 : vm_ent 93 79 = some (.ireturn, 0, 0, 0) := by decide +kernel
theorem e93_80 : vm_ent 93 80 = some (.iload_n 1, 0, 0, 0) := by decide +kernel
theorem e93_81 : vm_ent 93 81 = some (.ifCond .eq 20, 101, 0, 0) := by decide +kernel
theorem e93_84 : vm_ent 93 84 = some (.aload_n 0, 0, 0, 0) := by decide +kernel
theorem e93_85 : vm_ent 93 85 = some (.iload_n 3, 0, 0, 0) := by decide +kernel
theorem e93_86 : vm_ent 93 86 = some (.aload_n 0, 0, 0, 0) := by decide +kernel
theorem e93_87 : vm_ent 93 87 = some (.bipush 69, 0, 0, 0) := by decide +kernel
theorem e93_89 : vm_ent 93 89 = some (.iload 4, 0, 0, 0) := by decide +kernel
theorem e93_91 : vm_ent 93 91 = some (.invokevirtual 103, 85, 4, 790) := by decide +kernel
theorem e93_94 : vm_ent 93 94 = some (.iload 4, 0, 0, 0) := by decide +kernel
theorem e93_96 : vm_ent 93 96 = some (.iload 5, 0, 0, 0) := by decide +kernel
theorem e93_98 : vm_ent 93 98 = some (.invokevirtual 156, 92, 4, 825) := by decide +kernel
theorem e93_101 : vm_ent 93 101 = some (.aload_n 0, 0, 0, 0) := by decide +kernel
theorem e93_102 : vm_ent 93 102 = some (.aload_n 0, 0, 0, 0) := by decide +kernel
theorem e93_103 : vm_ent 93 103 = some (.getfield 78, 6, 39, 673) := by decide +kernel
theorem e93_106 : vm_ent 93 106 = some (.iload_n 3, 0, 0, 0) := by decide +kernel
theorem e93_107 : vm_ent 93 107 = some (.iaload, 0, 0, 0) := by decide +kernel
theorem e93_108 : vm_ent 93 108 = some (.iload 4, 0, 0, 0) := by decide +kernel
theorem e93_110 : vm_ent 93 110 = some (.iload 5, 0, 0, 0) := by decide +kernel
theorem e93_112 : vm_ent 93 112 = some (.invokevirtual 160, 91, 4, 835) := by decide +kernel
theorem e93_115 : vm_ent 93 115 = some (.ifCond .ne 5, 120, 0, 0) := by decide +kernel
theorem e93_118 : vm_ent 93 118 = some (.iconst 0, 0, 0, 0) := by decide +kernel
theorem e93_119 : vm_ent 93 119 = some (.ireturn, 0, 0, 0) := by decide +kernel
theorem e93_120 : vm_ent 93 120 = some (.aload_n 0, 0, 0, 0) := by decide +kernel
theorem e93_121 : vm_ent 93 121 = some (.dup, 0, 0, 0) := by decide +kernel
theorem e93_122 : vm_ent 93 122 = some (.getfield 146, 6, 41, 675) := by decide +kernel
theorem e93_125 : vm_ent 93 125 = some (.iconst 1, 0, 0, 0) := by decide +kernel
theorem e93_126 : vm_ent 93 126 = some (.iadd, 0, 0, 0) := by decide +kernel
theorem e93_127 : vm_ent 93 127 = some (.putfield 146, 6, 41, 675) := by decide +kernel
theorem e93_130 : vm_ent 93 130 = some (.goto (-83), 47, 0, 0) := by decide +kernel
theorem e93_133 : vm_ent 93 133 = some (.iinc 3 (-1), 0, 0, 0) := by decide +kernel
theorem e93_136 : vm_ent 93 136 = some (.goto (-124), 12, 0, 0) := by decide +kernel
theorem e93_139 : vm_ent 93 139 = some (.iconst 1, 0, 0, 0) := by decide +kernel
theorem e93_140 : vm_ent 93 140 = some (.ireturn, 0, 0, 0) := by decide +kernel
theorem e96_0 : vm_ent 96 0 = some (.aload_n 0, 0, 0, 0) := by decide +kernel
theorem e96_1 : vm_ent 96 1 = some (.iconst 0, 0, 0, 0) := by decide +kernel
theorem e96_2 : vm_ent 96 2 = some (.putfield 149, 6, 40, 674) := by decide +kernel
theorem e96_5 : vm_ent 96 5 = some (.iconst 1, 0, 0, 0) := by decide +kernel
theorem e96_6 : vm_ent 96 6 = some (.istore_n 1, 0, 0, 0) := by decide +kernel
theorem e96_7 : vm_ent 96 7 = some (.iload_n 1, 0, 0, 0) := by decide +kernel
theorem e96_8 : vm_ent 96 8 = some (.ifCond .eq 90, 98, 0, 0) := by decide +kernel
theorem e96_11 : vm_ent 96 11 = some (.iconst (-1), 0, 0, 0) := by decide +kernel
theorem e96_12 : vm_ent 96 12 = some (.istore_n 2, 0, 0, 0) := by decide +kernel
theorem e96_13 : vm_ent 96 13 = some (.iconst 0, 0, 0, 0) := by decide +kernel
theorem e96_14 : vm_ent 96 14 = some (.istore_n 3, 0, 0, 0) := by decide +kernel
theorem e96_15 : vm_ent 96 15 = some (.iload_n 3, 0, 0, 0) := by decide +kernel
theorem e96_16 : vm_ent 96 16 = some (.aload_n 0, 0, 0, 0) := by decide +kernel
theorem e96_17 : vm_ent 96 17 = some (.getfield 164, 6, 42, 676) := by decide +kernel
theorem e96_20 : vm_ent 96 20 = some (.if_icmp .ge 41, 61, 0, 0) := by decide +kernel
theorem e96_23 : vm_ent 96 23 = some (.aload_n 0, 0, 0, 0) := by decide +kernel
theorem e96_24 : vm_ent 96 24 = some (.bipush 16, 0, 0, 0) := by decide +kernel
theorem e96_26 : vm_ent 96 26 = some (.iload_n 3, 0, 0, 0) := by decide +kernel
theorem e96_27 : vm_ent 96 27 = some (.iadd, 0, 0, 0) := by decide +kernel
theorem e96_28 : vm_ent 96 28 = some (.invokevirtual 167, 95, 4, 809) := by decide +kernel
theorem e96_31 : vm_ent 96 31 = some (.ifCond .eq 24, 55, 0, 0) := by decide +kernel
theorem e96_34 : vm_ent 96 34 = some (.iload_n 2, 0, 0, 0) := by decide +kernel
theorem e96_35 : vm_ent 96 35 = some (.ifCond .lt 15, 50, 0, 0) := by decide +kernel
theorem e96_38 : vm_ent 96 38 = some (.aload_n 0, 0, 0, 0) := by decide +kernel
theorem e96_39 : vm_ent 96 39 = some (.bipush 16, 0, 0, 0) := by decide +kernel
theorem e96_41 : vm_ent 96 41 = some (.iload_n 3, 0, 0, 0) := by decide +kernel
theorem e96_42 : vm_ent 96 42 = some (.iadd, 0, 0, 0) := by decide +kernel
theorem e96_43 : vm_ent 96 43 = some (.iload_n 2, 0, 0, 0) := by decide +kernel
theorem e96_44 : vm_ent 96 44 = some (.invokevirtual 170, 94, 4, 813) := by decide +kernel
theorem e96_47 : vm_ent 96 47 = some (.ifCond .eq 8, 55, 0, 0) := by decide +kernel
theorem e96_50 : vm_ent 96 50 = some (.bipush 16, 0, 0, 0) := by decide +kernel
theorem e96_52 : vm_ent 96 52 = some (.iload_n 3, 0, 0, 0) := by decide +kernel
theorem e96_53 : vm_ent 96 53 = some (.iadd, 0, 0, 0) := by decide +kernel
theorem e96_54 : vm_ent 96 54 = some (.istore_n 2, 0, 0, 0) := by decide +kernel
theorem e96_55 : vm_ent 96 55 = some (.iinc 3 1, 0, 0, 0) := by decide +kernel
theorem e96_58 : vm_ent 96 58 = some (.goto (-43), 15, 0, 0) := by decide +kernel
theorem e96_61 : vm_ent 96 61 = some (.iload_n 2, 0, 0, 0) := by decide +kernel
theorem e96_62 : vm_ent 96 62 = some (.ifCond .lt 7, 69, 0, 0) := by decide +kernel
theorem e96_65 : vm_ent 96 65 = some (.iconst 1, 0, 0, 0) := by decide +kernel
theorem e96_66 : vm_ent 96 66 = some (.goto 4, 70, 0, 0) := by decide +kernel
theorem e96_69 : vm_ent 96 69 = some (.iconst 0, 0, 0, 0) := by decide +kernel
theorem e96_70 : vm_ent 96 70 = some (.istore_n 1, 0, 0, 0) := by decide +kernel
theorem e96_71 : vm_ent 96 71 = some (.iload_n 1, 0, 0, 0) := by decide +kernel
theorem e96_72 : vm_ent 96 72 = some (.ifCond .eq 23, 95, 0, 0) := by decide +kernel
theorem e96_75 : vm_ent 96 75 = some (.aload_n 0, 0, 0, 0) := by decide +kernel
theorem e96_76 : vm_ent 96 76 = some (.getfield 78, 6, 39, 673) := by decide +kernel
theorem e96_79 : vm_ent 96 79 = some (.aload_n 0, 0, 0, 0) := by decide +kernel
theorem e96_80 : vm_ent 96 80 = some (.getfield 149, 6, 40, 674) := by decide +kernel
theorem e96_83 : vm_ent 96 83 = some (.iload_n 2, 0, 0, 0) := by decide +kernel
theorem e96_84 : vm_ent 96 84 = some (.iastore, 0, 0, 0) := by decide +kernel
theorem e96_85 : vm_ent 96 85 = some (.aload_n 0, 0, 0, 0) := by decide +kernel
theorem e96_86 : vm_ent 96 86 = some (.dup, 0, 0, 0) := by decide +kernel
theorem e96_87 : vm_ent 96 87 = some (.getfield 149, 6, 40, 674) := by decide +kernel
theorem e96_90 : vm_ent 96 90 = some (.iconst 1, 0, 0, 0) := by decide +kernel
theorem e96_91 : vm_ent 96 91 = some (.iadd, 0, 0, 0) := by decide +kernel
theorem e96_92 : vm_ent 96 92 = some (.putfield 149, 6, 40, 674) := by decide +kernel
theorem e96_95 : vm_ent 96 95 = some (.goto (-88), 7, 0, 0) := by decide +kernel
theorem e96_98 : vm_ent 96 98 = some (.return_, 0, 0, 0) := by decide +kernel
theorem e99_0 : vm_ent 99 0 = some (.aload_n 0, 0, 0, 0) := by decide +kernel
theorem e99_1 : vm_ent 99 1 = some (.iload_n 1, 0, 0, 0) := by decide +kernel
theorem e99_2 : vm_ent 99 2 = some (.bipush 68, 0, 0, 0) := by decide +kernel
theorem e99_4 : vm_ent 99 4 = some (.invokevirtual 177, 81, 4, 775) := by decide +kernel
theorem e99_7 : vm_ent 99 7 = some (.aload_n 0, 0, 0, 0) := by decide +kernel
theorem e99_8 : vm_ent 99 8 = some (.iconst 1, 0, 0, 0) := by decide +kernel
theorem e99_9 : vm_ent 99 9 = some (.putfield 181, 6, 13, 647) := by decide +kernel
theorem e99_12 : vm_ent 99 12 = some (.return_, 0, 0, 0) := by decide +kernel
theorem e100_0 : vm_ent 100 0 = some (.aload_n 0, 0, 0, 0) := by decide +kernel
theorem e100_1 : vm_ent 100 1 = some (.dup, 0, 0, 0) := by decide +kernel
theorem e100_2 : vm_ent 100 2 = some (.getfield 185, 6, 14, 648) := by decide +kernel
theorem e100_5 : vm_ent 100 5 = some (.iconst 1, 0, 0, 0) := by decide +kernel
theorem e100_6 : vm_ent 100 6 = some (.iadd, 0, 0, 0) := by decide +kernel
theorem e100_7 : vm_ent 100 7 = some (.putfield 185, 6, 14, 648) := by decide +kernel
theorem e100_10 : vm_ent 100 10 = some (.aload_n 0, 0, 0, 0) := by decide +kernel
theorem e100_11 : vm_ent 100 11 = some (.invokevirtual 188, 96, 4, 805) := by decide +kernel
theorem e100_14 : vm_ent 100 14 = some (.aload_n 0, 0, 0, 0) := by decide +kernel
theorem e100_15 : vm_ent 100 15 = some (.getfield 164, 6, 42, 676) := by decide +kernel
theorem e100_18 : vm_ent 100 18 = some (.istore_n 1, 0, 0, 0) := by decide +kernel
theorem e100_19 : vm_ent 100 19 = some (.iconst 0, 0, 0, 0) := by decide +kernel
theorem e100_20 : vm_ent 100 20 = some (.istore_n 2, 0, 0, 0) := by decide +kernel
theorem e100_21 : vm_ent 100 21 = some (.iload_n 2, 0, 0, 0) := by decide +kernel
theorem e100_22 : vm_ent 100 22 = some (.iload_n 1, 0, 0, 0) := by decide +kernel
theorem e100_23 : vm_ent 100 23 = some (.if_icmp .ge 157, 180, 0, 0) := by decide +kernel
theorem e100_26 : vm_ent 100 26 = some (.aload_n 0, 0, 0, 0) := by decide +kernel
theorem e100_27 : vm_ent 100 27 = some (.bipush 16, 0, 0, 0) := by decide +kernel
theorem e100_29 : vm_ent 100 29 = some (.iload_n 2, 0, 0, 0) := by decide +kernel
theorem e100_30 : vm_ent 100 30 = some (.iadd, 0, 0, 0) := by decide +kernel
theorem e100_31 : vm_ent 100 31 = some (.invokevirtual 191, 97, 4, 817) := by decide +kernel
theorem e100_34 : vm_ent 100 34 = some (.ifCond .ne 140, 174, 0, 0) := by decide +kernel
theorem e100_37 : vm_ent 100 37 = some (.aload_n 0, 0, 0, 0) := by decide +kernel
theorem e100_38 : vm_ent 100 38 = some (.bipush 16, 0, 0, 0) := by decide +kernel
theorem e100_40 : vm_ent 100 40 = some (.iload_n 2, 0, 0, 0) := by decide +kernel
theorem e100_41 : vm_ent 100 41 = some (.iadd, 0, 0, 0) := by decide +kernel
theorem e100_42 : vm_ent 100 42 = some (.bipush 69, 0, 0, 0) := by decide +kernel
theorem e100_44 : vm_ent 100 44 = some (.invokevirtual 177, 81, 4, 775) := by decide +kernel
theorem e100_47 : vm_ent 100 47 = some (.sipush 1000, 0, 0, 0) := by decide +kernel
theorem e100_50 : vm_ent 100 50 = some (.aload_n 0, 0, 0, 0) := by decide +kernel
theorem e100_51 : vm_ent 100 51 = some (.getfield 194, 6, 16, 650) := by decide +kernel
theorem e100_54 : vm_ent 100 54 = some (.isub, 0, 0, 0) := by decide +kernel
theorem e100_55 : vm_ent 100 55 = some (.istore_n 3, 0, 0, 0) := by decide +kernel
theorem e100_56 : vm_ent 100 56 = some (.aload_n 0, 0, 0, 0) := by decide +kernel
theorem e100_57 : vm_ent 100 57 = some (.iconst 0, 0, 0, 0) := by decide +kernel
theorem e100_58 : vm_ent 100 58 = some (.iload_n 3, 0, 0, 0) := by decide +kernel
theorem e100_59 : vm_ent 100 59 = some (.sipush 200, 0, 0, 0) := by decide +kernel
theorem e100_62 : vm_ent 100 62 = some (.if_icmp .ge 7, 69, 0, 0) := by decide +kernel
theorem e100_65 : vm_ent 100 65 = some (.iload_n 3, 0, 0, 0) := by decide +kernel
theorem e100_66 : vm_ent 100 66 = some (.goto 6, 72, 0, 0) := by decide +kernel
theorem e100_69 : vm_ent 100 69 = some (.sipush 200, 0, 0, 0) := by decide +kernel
theorem e100_72 : vm_ent 100 72 = some (.invokevirtual 197, 93, 4, 821) := by decide +kernel
theorem e100_75 : vm_ent 100 75 = some (.istore 4, 0, 0, 0) := by decide +kernel
theorem e100_77 : vm_ent 100 77 = some (.aload_n 0, 0, 0, 0) := by decide +kernel
theorem e100_78 : vm_ent 100 78 = some (.dup, 0, 0, 0) := by decide +kernel
theorem e100_79 : vm_ent 100 79 = some (.getfield 194, 6, 16, 650) := by decide +kernel
theorem e100_82 : vm_ent 100 82 = some (.aload_n 0, 0, 0, 0) := by decide +kernel
theorem e100_83 : vm_ent 100 83 = some (.getfield 146, 6, 41, 675) := by decide +kernel
theorem e100_86 : vm_ent 100 86 = some (.iadd, 0, 0, 0) := by decide +kernel
theorem e100_87 : vm_ent 100 87 = some (.putfield 194, 6, 16, 650) := by decide +kernel
theorem e100_90 : vm_ent 100 90 = some (.iload 4, 0, 0, 0) := by decide +kernel
theorem e100_92 : vm_ent 100 92 = some (.ifCond .ne 5, 97, 0, 0) := by decide +kernel
theorem e100_95 : vm_ent 100 95 = some (.iconst 2, 0, 0, 0) := by decide +kernel
theorem e100_96 : vm_ent 100 96 = some (.ireturn, 0, 0, 0) := by decide +kernel
theorem e100_97 : vm_ent 100 97 = some (.aload_n 0, 0, 0, 0) := by decide +kernel
theorem e100_98 : vm_ent 100 98 = some (.bipush 69, 0, 0, 0) := by decide +kernel
theorem e100_100 : vm_ent 100 100 = some (.invokevirtual 201, 83, 4, 779) := by decide +kernel
theorem e100_103 : vm_ent 100 103 = some (.aload_n 0, 0, 0, 0) := by decide +kernel
theorem e100_104 : vm_ent 100 104 = some (.getfield 20, 6, 6, 640) := by decide +kernel
theorem e100_107 : vm_ent 100 107 = some (.bipush 69, 0, 0, 0) := by decide +kernel
theorem e100_109 : vm_ent 100 109 = some (.iaload, 0, 0, 0) := by decide +kernel
theorem e100_110 : vm_ent 100 110 = some (.ifCond .le 64, 174, 0, 0) := by decide +kernel
theorem e100_113 : vm_ent 100 113 = some (.aload_n 0, 0, 0, 0) := by decide +kernel
theorem e100_114 : vm_ent 100 114 = some (.bipush 69, 0, 0, 0) := by decide +kernel
theorem e100_116 : vm_ent 100 116 = some (.invokevirtual 204, 98, 4, 861) := by decide +kernel
theorem e100_119 : vm_ent 100 119 = some (.ifCond .ne 55, 174, 0, 0) := by decide +kernel
theorem e100_122 : vm_ent 100 122 = some (.aload_n 0, 0, 0, 0) := by decide +kernel
theorem e100_123 : vm_ent 100 123 = some (.bipush 69, 0, 0, 0) := by decide +kernel
theorem e100_125 : vm_ent 100 125 = some (.invokevirtual 152, 86, 4, 786) := by decide +kernel
theorem e100_128 : vm_ent 100 128 = some (.iconst (-1), 0, 0, 0) := by decide +kernel
theorem e100_129 : vm_ent 100 129 = some (.if_icmp .ne 11, 140, 0, 0) := by decide +kernel
theorem e100_132 : vm_ent 100 132 = some (.aload_n 0, 0, 0, 0) := by decide +kernel
theorem e100_133 : vm_ent 100 133 = some (.bipush 69, 0, 0, 0) := by decide +kernel
theorem e100_135 : vm_ent 100 135 = some (.invokevirtual 207, 99, 4, 797) := by decide +kernel
theorem e100_138 : vm_ent 100 138 = some (.iconst 0, 0, 0, 0) := by decide +kernel
theorem e100_139 : vm_ent 100 139 = some (.ireturn, 0, 0, 0) := by decide +kernel
theorem e100_140 : vm_ent 100 140 = some (.aload_n 0, 0, 0, 0) := by decide +kernel
theorem e100_141 : vm_ent 100 141 = some (.getfield 164, 6, 42, 676) := by decide +kernel
theorem e100_144 : vm_ent 100 144 = some (.bipush 40, 0, 0, 0) := by decide +kernel
theorem e100_146 : vm_ent 100 146 = some (.if_icmp .ne 5, 151, 0, 0) := by decide +kernel
theorem e100_149 : vm_ent 100 149 = some (.iconst 2, 0, 0, 0) := by decide +kernel
theorem e100_150 : vm_ent 100 150 = some (.ireturn, 0, 0, 0) := by decide +kernel
theorem e100_151 : vm_ent 100 151 = some (.aload_n 0, 0, 0, 0) := by decide +kernel
theorem e100_152 : vm_ent 100 152 = some (.bipush 69, 0, 0, 0) := by decide +kernel
theorem e100_154 : vm_ent 100 154 = some (.bipush 16, 0, 0, 0) := by decide +kernel
theorem e100_156 : vm_ent 100 156 = some (.aload_n 0, 0, 0, 0) := by decide +kernel
theorem e100_157 : vm_ent 100 157 = some (.getfield 164, 6, 42, 676) := by decide +kernel
theorem e100_160 : vm_ent 100 160 = some (.iadd, 0, 0, 0) := by decide +kernel
theorem e100_161 : vm_ent 100 161 = some (.invokevirtual 177, 81, 4, 775) := by decide +kernel
theorem e100_164 : vm_ent 100 164 = some (.aload_n 0, 0, 0, 0) := by decide +kernel
theorem e100_165 : vm_ent 100 165 = some (.dup, 0, 0, 0) := by decide +kernel
theorem e100_166 : vm_ent 100 166 = some (.getfield 164, 6, 42, 676) := by decide +kernel
theorem e100_169 : vm_ent 100 169 = some (.iconst 1, 0, 0, 0) := by decide +kernel
theorem e100_170 : vm_ent 100 170 = some (.iadd, 0, 0, 0) := by decide +kernel
theorem e100_171 : vm_ent 100 171 = some (.putfield 164, 6, 42, 676) := by decide +kernel
theorem e100_174 : vm_ent 100 174 = some (.iinc 2 1, 0, 0, 0) := by decide +kernel
theorem e100_177 : vm_ent 100 177 = some (.goto (-156), 21, 0, 0) := by decide +kernel
theorem e100_180 : vm_ent 100 180 = some (.aload_n 0, 0, 0, 0) := by decide +kernel
theorem e100_181 : vm_ent 100 181 = some (.getfield 164, 6, 42, 676) := by decide +kernel
theorem e100_184 : vm_ent 100 184 = some (.iload_n 1, 0, 0, 0) := by decide +kernel
theorem e100_185 : vm_ent 100 185 = some (.if_icmp .ne 7, 192, 0, 0) := by decide +kernel
theorem e100_188 : vm_ent 100 188 = some (.iconst 1, 0, 0, 0) := by decide +kernel
theorem e100_189 : vm_ent 100 189 = some (.goto 4, 193, 0, 0) := by decide +kernel
theorem e100_192 : vm_ent 100 192 = some (.iconst 3, 0, 0, 0) := by decide +kernel
theorem e100_193 : vm_ent 100 193 = some (.ireturn, 0, 0, 0) := by decide +kernel
theorem e105_0 : vm_ent 105 0 = some (.aload_n 0, 0, 0, 0) := by decide +kernel
theorem e105_1 : vm_ent 105 1 = some (.iconst 0, 0, 0, 0) := by decide +kernel
theorem e105_2 : vm_ent 105 2 = some (.putfield 84, 6, 0, 634) := by decide +kernel
theorem e105_5 : vm_ent 105 5 = some (.aload_n 0, 0, 0, 0) := by decide +kernel
theorem e105_6 : vm_ent 105 6 = some (.getfield 88, 6, 1, 635) := by decide +kernel
theorem e105_9 : vm_ent 105 9 = some (.bipush 8, 0, 0, 0) := by decide +kernel
theorem e105_11 : vm_ent 105 11 = some (.if_icmp .ne 5, 16, 0, 0) := by decide +kernel
theorem e105_14 : vm_ent 105 14 = some (.iconst (-1), 0, 0, 0) := by decide +kernel
theorem e105_15 : vm_ent 105 15 = some (.ireturn, 0, 0, 0) := by decide +kernel
theorem e105_16 : vm_ent 105 16 = some (.aload_n 0, 0, 0, 0) := by decide +kernel
theorem e105_17 : vm_ent 105 17 = some (.getfield 7, 6, 2, 636) := by decide +kernel
theorem e105_20 : vm_ent 105 20 = some (.aload_n 0, 0, 0, 0) := by decide +kernel
theorem e105_21 : vm_ent 105 21 = some (.getfield 88, 6, 1, 635) := by decide +kernel
theorem e105_24 : vm_ent 105 24 = some (.iload_n 1, 0, 0, 0) := by decide +kernel
theorem e105_25 : vm_ent 105 25 = some (.bastore, 0, 0, 0) := by decide +kernel
theorem e105_26 : vm_ent 105 26 = some (.aload_n 0, 0, 0, 0) := by decide +kernel
theorem e105_27 : vm_ent 105 27 = some (.getfield 13, 6, 3, 637) := by decide +kernel
theorem e105_30 : vm_ent 105 30 = some (.aload_n 0, 0, 0, 0) := by decide +kernel
theorem e105_31 : vm_ent 105 31 = some (.getfield 88, 6, 1, 635) := by decide +kernel
theorem e105_34 : vm_ent 105 34 = some (.aload_n 0, 0, 0, 0) := by decide +kernel
theorem e105_35 : vm_ent 105 35 = some (.getfield 88, 6, 1, 635) := by decide +kernel
theorem e105_38 : vm_ent 105 38 = some (.iastore, 0, 0, 0) := by decide +kernel
theorem e105_39 : vm_ent 105 39 = some (.aload_n 0, 0, 0, 0) := by decide +kernel
theorem e105_40 : vm_ent 105 40 = some (.dup, 0, 0, 0) := by decide +kernel
theorem e105_41 : vm_ent 105 41 = some (.getfield 88, 6, 1, 635) := by decide +kernel
theorem e105_44 : vm_ent 105 44 = some (.iconst 1, 0, 0, 0) := by decide +kernel
theorem e105_45 : vm_ent 105 45 = some (.iadd, 0, 0, 0) := by decide +kernel
theorem e105_46 : vm_ent 105 46 = some (.putfield 88, 6, 1, 635) := by decide +kernel
theorem e105_49 : vm_ent 105 49 = some (.aload_n 0, 0, 0, 0) := by decide +kernel
theorem e105_50 : vm_ent 105 50 = some (.invokevirtual 225, 101, 4, 771) := by decide +kernel
theorem e105_53 : vm_ent 105 53 = some (.aload_n 0, 0, 0, 0) := by decide +kernel
theorem e105_54 : vm_ent 105 54 = some (.getfield 88, 6, 1, 635) := by decide +kernel
theorem e105_57 : vm_ent 105 57 = some (.iconst 1, 0, 0, 0) := by decide +kernel
theorem e105_58 : vm_ent 105 58 = some (.isub, 0, 0, 0) := by decide +kernel
theorem e105_59 : vm_ent 105 59 = some (.ireturn, 0, 0, 0) := by decide +kernel
theorem e106_0 : vm_ent 106 0 = some (.aload_n 0, 0, 0, 0) := by decide +kernel
theorem e106_1 : vm_ent 106 1 = some (.iconst 0, 0, 0, 0) := by decide +kernel
theorem e106_2 : vm_ent 106 2 = some (.putfield 84, 6, 0, 634) := by decide +kernel
theorem e106_5 : vm_ent 106 5 = some (.iload_n 2, 0, 0, 0) := by decide +kernel
theorem e106_6 : vm_ent 106 6 = some (.ifCond .lt 23, 29, 0, 0) := by decide +kernel
theorem e106_9 : vm_ent 106 9 = some (.iload_n 2, 0, 0, 0) := by decide +kernel
theorem e106_10 : vm_ent 106 10 = some (.aload_n 0, 0, 0, 0) := by decide +kernel
theorem e106_11 : vm_ent 106 11 = some (.getfield 88, 6, 1, 635) := by decide +kernel
theorem e106_14 : vm_ent 106 14 = some (.if_icmp .ge 15, 29, 0, 0) := by decide +kernel
theorem e106_17 : vm_ent 106 17 = some (.iload_n 1, 0, 0, 0) := by decide +kernel
theorem e106_18 : vm_ent 106 18 = some (.ifCond .lt 11, 29, 0, 0) := by decide +kernel
theorem e106_21 : vm_ent 106 21 = some (.iload_n 1, 0, 0, 0) := by decide +kernel
theorem e106_22 : vm_ent 106 22 = some (.aload_n 0, 0, 0, 0) := by decide +kernel
theorem e106_23 : vm_ent 106 23 = some (.getfield 88, 6, 1, 635) := by decide +kernel
theorem e106_26 : vm_ent 106 26 = some (.if_icmp .lt 5, 31, 0, 0) := by decide +kernel
theorem e106_29 : vm_ent 106 29 = some (.iconst 0, 0, 0, 0) := by decide +kernel
theorem e106_30 : vm_ent 106 30 = some (.ireturn, 0, 0, 0) := by decide +kernel
theorem e106_31 : vm_ent 106 31 = some (.iconst 0, 0, 0, 0) := by decide +kernel
theorem e106_32 : vm_ent 106 32 = some (.istore_n 3, 0, 0, 0) := by decide +kernel
theorem e106_33 : vm_ent 106 33 = some (.aload_n 0, 0, 0, 0) := by decide +kernel
theorem e106_34 : vm_ent 106 34 = some (.getfield 13, 6, 3, 637) := by decide +kernel
theorem e106_37 : vm_ent 106 37 = some (.iload_n 3, 0, 0, 0) := by decide +kernel
theorem e106_38 : vm_ent 106 38 = some (.iaload, 0, 0, 0) := by decide +kernel
theorem e106_39 : vm_ent 106 39 = some (.iload_n 2, 0, 0, 0) := by decide +kernel
theorem e106_40 : vm_ent 106 40 = some (.if_icmp .eq 9, 49, 0, 0) := by decide +kernel
theorem e106_43 : vm_ent 106 43 = some (.iinc 3 1, 0, 0, 0) := by decide +kernel
theorem e106_46 : vm_ent 106 46 = some (.goto (-13), 33, 0, 0) := by decide +kernel
theorem e106_49 : vm_ent 106 49 = some (.iload_n 3, 0, 0, 0) := by decide +kernel
theorem e106_50 : vm_ent 106 50 = some (.iload_n 1, 0, 0, 0) := by decide +kernel
theorem e106_51 : vm_ent 106 51 = some (.if_icmp .ne 5, 56, 0, 0) := by decide +kernel
theorem e106_54 : vm_ent 106 54 = some (.iconst 1, 0, 0, 0) := by decide +kernel
theorem e106_55 : vm_ent 106 55 = some (.ireturn, 0, 0, 0) := by decide +kernel
theorem e106_56 : vm_ent 106 56 = some (.iload_n 3, 0, 0, 0) := by decide +kernel
theorem e106_57 : vm_ent 106 57 = some (.iload_n 1, 0, 0, 0) := by decide +kernel
theorem e106_58 : vm_ent 106 58 = some (.if_icmp .ge 23, 81, 0, 0) := by decide +kernel
theorem e106_61 : vm_ent 106 61 = some (.aload_n 0, 0, 0, 0) := by decide +kernel
theorem e106_62 : vm_ent 106 62 = some (.getfield 13, 6, 3, 637) := by decide +kernel
theorem e106_65 : vm_ent 106 65 = some (.iload_n 3, 0, 0, 0) := by decide +kernel
theorem e106_66 : vm_ent 106 66 = some (.aload_n 0, 0, 0, 0) := by decide +kernel
theorem e106_67 : vm_ent 106 67 = some (.getfield 13, 6, 3, 637) := by decide +kernel
theorem e106_70 : vm_ent 106 70 = some (.iload_n 3, 0, 0, 0) := by decide +kernel
theorem e106_71 : vm_ent 106 71 = some (.iconst 1, 0, 0, 0) := by decide +kernel
theorem e106_72 : vm_ent 106 72 = some (.iadd, 0, 0, 0) := by decide +kernel
theorem e106_73 : vm_ent 106 73 = some (.iaload, 0, 0, 0) := by decide +kernel
theorem e106_74 : vm_ent 106 74 = some (.iastore, 0, 0, 0) := by decide +kernel
theorem e106_75 : vm_ent 106 75 = some (.iinc 3 1, 0, 0, 0) := by decide +kernel
theorem e106_78 : vm_ent 106 78 = some (.goto (-22), 56, 0, 0) := by decide +kernel
theorem e106_81 : vm_ent 106 81 = some (.iload_n 3, 0, 0, 0) := by decide +kernel
theorem e106_82 : vm_ent 106 82 = some (.iload_n 1, 0, 0, 0) := by decide +kernel
theorem e106_83 : vm_ent 106 83 = some (.if_icmp .le 23, 106, 0, 0) := by decide +kernel
theorem e106_86 : vm_ent 106 86 = some (.aload_n 0, 0, 0, 0) := by decide +kernel
theorem e106_87 : vm_ent 106 87 = some (.getfield 13, 6, 3, 637) := by decide +kernel
theorem e106_90 : vm_ent 106 90 = some (.iload_n 3, 0, 0, 0) := by decide +kernel
theorem e106_91 : vm_ent 106 91 = some (.aload_n 0, 0, 0, 0) := by decide +kernel
theorem e106_92 : vm_ent 106 92 = some (.getfield 13, 6, 3, 637) := by decide +kernel
theorem e106_95 : vm_ent 106 95 = some (.iload_n 3, 0, 0, 0) := by decide +kernel
theorem e106_96 : vm_ent 106 96 = some (.iconst 1, 0, 0, 0) := by decide +kernel
theorem e106_97 : vm_ent 106 97 = some (.isub, 0, 0, 0) := by decide +kernel
theorem e106_98 : vm_ent 106 98 = some (.iaload, 0, 0, 0) := by decide +kernel
theorem e106_99 : vm_ent 106 99 = some (.iastore, 0, 0, 0) := by decide +kernel
theorem e106_100 : vm_ent 106 100 = some (.iinc 3 (-1), 0, 0, 0) := by decide +kernel
theorem e106_103 : vm_ent 106 103 = some (.goto (-22), 81, 0, 0) := by decide +kernel
theorem e106_106 : vm_ent 106 106 = some (.aload_n 0, 0, 0, 0) := by decide +kernel
theorem e106_107 : vm_ent 106 107 = some (.getfield 13, 6, 3, 637) := by decide +kernel
theorem e106_110 : vm_ent 106 110 = some (.iload_n 1, 0, 0, 0) := by decide +kernel
theorem e106_111 : vm_ent 106 111 = some (.iload_n 2, 0, 0, 0) := by decide +kernel
theorem e106_112 : vm_ent 106 112 = some (.iastore, 0, 0, 0) := by decide +kernel
theorem e106_113 : vm_ent 106 113 = some (.aload_n 0, 0, 0, 0) := by decide +kernel
theorem e106_114 : vm_ent 106 114 = some (.invokevirtual 225, 101, 4, 771) := by decide +kernel
theorem e106_117 : vm_ent 106 117 = some (.iconst 0, 0, 0, 0) := by decide +kernel
theorem e106_118 : vm_ent 106 118 = some (.istore 4, 0, 0, 0) := by decide +kernel
theorem e106_120 : vm_ent 106 120 = some (.iload 4, 0, 0, 0) := by decide +kernel
theorem e106_122 : vm_ent 106 122 = some (.aload_n 0, 0, 0, 0) := by decide +kernel
theorem e106_123 : vm_ent 106 123 = some (.getfield 222, 6, 4, 638) := by decide +kernel
theorem e106_126 : vm_ent 106 126 = some (.if_icmp .ge 15, 141, 0, 0) := by decide +kernel
theorem e106_129 : vm_ent 106 129 = some (.aload_n 0, 0, 0, 0) := by decide +kernel
theorem e106_130 : vm_ent 106 130 = some (.iload 4, 0, 0, 0) := by decide +kernel
theorem e106_132 : vm_ent 106 132 = some (.invokevirtual 124, 80, 4, 853) := by decide +kernel
theorem e106_135 : vm_ent 106 135 = some (.iinc 4 1, 0, 0, 0) := by decide +kernel
theorem e106_138 : vm_ent 106 138 = some (.goto (-18), 120, 0, 0) := by decide +kernel
theorem e106_141 : vm_ent 106 141 = some (.aload_n 0, 0, 0, 0) := by decide +kernel
theorem e106_142 : vm_ent 106 142 = some (.bipush 68, 0, 0, 0) := by decide +kernel
theorem e106_144 : vm_ent 106 144 = some (.invokevirtual 124, 80, 4, 853) := by decide +kernel
theorem e106_147 : vm_ent 106 147 = some (.iconst 1, 0, 0, 0) := by decide +kernel
theorem e106_148 : vm_ent 106 148 = some (.ireturn, 0, 0, 0) := by decide +kernel
theorem e107_0 : vm_ent 107 0 = some (.aload_n 0, 0, 0, 0) := by decide +kernel
theorem e107_1 : vm_ent 107 1 = some (.iconst 0, 0, 0, 0) := by decide +kernel
theorem e107_2 : vm_ent 107 2 = some (.putfield 84, 6, 0, 634) := by decide +kernel
theorem e107_5 : vm_ent 107 5 = some (.aload_n 0, 0, 0, 0) := by decide +kernel
theorem e107_6 : vm_ent 107 6 = some (.getfield 222, 6, 4, 638) := by decide +kernel
theorem e107_9 : vm_ent 107 9 = some (.bipush 16, 0, 0, 0) := by decide +kernel
theorem e107_11 : vm_ent 107 11 = some (.if_icmp .ne 5, 16, 0, 0) := by decide +kernel
theorem e107_14 : vm_ent 107 14 = some (.iconst (-1), 0, 0, 0) := by decide +kernel
theorem e107_15 : vm_ent 107 15 = some (.ireturn, 0, 0, 0) := by decide +kernel
theorem e107_16 : vm_ent 107 16 = some (.aload_n 0, 0, 0, 0) := by decide +kernel
theorem e107_17 : vm_ent 107 17 = some (.getfield 20, 6, 6, 640) := by decide +kernel
theorem e107_20 : vm_ent 107 20 = some (.aload_n 0, 0, 0, 0) := by decide +kernel
theorem e107_21 : vm_ent 107 21 = some (.getfield 222, 6, 4, 638) := by decide +kernel
theorem e107_24 : vm_ent 107 24 = some (.iconst 0, 0, 0, 0) := by decide +kernel
theorem e107_25 : vm_ent 107 25 = some (.iastore, 0, 0, 0) := by decide +kernel
theorem e107_26 : vm_ent 107 26 = some (.aload_n 0, 0, 0, 0) := by decide +kernel
theorem e107_27 : vm_ent 107 27 = some (.getfield 17, 6, 5, 639) := by decide +kernel
theorem e107_30 : vm_ent 107 30 = some (.aload_n 0, 0, 0, 0) := by decide +kernel
theorem e107_31 : vm_ent 107 31 = some (.getfield 222, 6, 4, 638) := by decide +kernel
theorem e107_34 : vm_ent 107 34 = some (.iconst 0, 0, 0, 0) := by decide +kernel
theorem e107_35 : vm_ent 107 35 = some (.bastore, 0, 0, 0) := by decide +kernel
theorem e107_36 : vm_ent 107 36 = some (.aload_n 0, 0, 0, 0) := by decide +kernel
theorem e107_37 : vm_ent 107 37 = some (.dup, 0, 0, 0) := by decide +kernel
theorem e107_38 : vm_ent 107 38 = some (.getfield 222, 6, 4, 638) := by decide +kernel
theorem e107_41 : vm_ent 107 41 = some (.iconst 1, 0, 0, 0) := by decide +kernel
theorem e107_42 : vm_ent 107 42 = some (.iadd, 0, 0, 0) := by decide +kernel
theorem e107_43 : vm_ent 107 43 = some (.putfield 222, 6, 4, 638) := by decide +kernel
theorem e107_46 : vm_ent 107 46 = some (.aload_n 0, 0, 0, 0) := by decide +kernel
theorem e107_47 : vm_ent 107 47 = some (.getfield 222, 6, 4, 638) := by decide +kernel
theorem e107_50 : vm_ent 107 50 = some (.iconst 1, 0, 0, 0) := by decide +kernel
theorem e107_51 : vm_ent 107 51 = some (.isub, 0, 0, 0) := by decide +kernel
theorem e107_52 : vm_ent 107 52 = some (.ireturn, 0, 0, 0) := by decide +kernel
theorem e108_0 : vm_ent 108 0 = some (.aload_n 0, 0, 0, 0) := by decide +kernel
theorem e108_1 : vm_ent 108 1 = some (.iconst 0, 0, 0, 0) := by decide +kernel
theorem e108_2 : vm_ent 108 2 = some (.putfield 84, 6, 0, 634) := by decide +kernel
theorem e108_5 : vm_ent 108 5 = some (.aload_n 0, 0, 0, 0) := by decide +kernel
theorem e108_6 : vm_ent 108 6 = some (.iload_n 1, 0, 0, 0) := by decide +kernel
theorem e108_7 : vm_ent 108 7 = some (.invokevirtual 235, 103, 4, 873) := by decide +kernel
theorem e108_10 : vm_ent 108 10 = some (.ifCond .eq 5, 15, 0, 0) := by decide +kernel
theorem e108_13 : vm_ent 108 13 = some (.iconst 0, 0, 0, 0) := by decide +kernel
theorem e108_14 : vm_ent 108 14 = some (.ireturn, 0, 0, 0) := by decide +kernel
theorem e108_15 : vm_ent 108 15 = some (.lconst 0, 0, 0, 0) := by decide +kernel
theorem e108_16 : vm_ent 108 16 = some (.lstore 5, 0, 0, 0) := by decide +kernel
theorem e108_18 : vm_ent 108 18 = some (.iconst 0, 0, 0, 0) := by decide +kernel
theorem e108_19 : vm_ent 108 19 = some (.istore 7, 0, 0, 0) := by decide +kernel
theorem e108_21 : vm_ent 108 21 = some (.iload 7, 0, 0, 0) := by decide +kernel
theorem e108_23 : vm_ent 108 23 = some (.bipush 8, 0, 0, 0) := by decide +kernel
theorem e108_25 : vm_ent 108 25 = some (.if_icmp .ge 51, 76, 0, 0) := by decide +kernel
theorem e108_28 : vm_ent 108 28 = some (.iload 4, 0, 0, 0) := by decide +kernel
theorem e108_30 : vm_ent 108 30 = some (.iconst 4, 0, 0, 0) := by decide +kernel
theorem e108_31 : vm_ent 108 31 = some (.iload 7, 0, 0, 0) := by decide +kernel
theorem e108_33 : vm_ent 108 33 = some (.imul, 0, 0, 0) := by decide +kernel
theorem e108_34 : vm_ent 108 34 = some (.iushr, 0, 0, 0) := by decide +kernel
theorem e108_35 : vm_ent 108 35 = some (.bipush 15, 0, 0, 0) := by decide +kernel
theorem e108_37 : vm_ent 108 37 = some (.iand, 0, 0, 0) := by decide +kernel
theorem e108_38 : vm_ent 108 38 = some (.istore 8, 0, 0, 0) := by decide +kernel
theorem e108_40 : vm_ent 108 40 = some (.iload 8, 0, 0, 0) := by decide +kernel
theorem e108_42 : vm_ent 108 42 = some (.ifCond .le 14, 56, 0, 0) := by decide +kernel
theorem e108_45 : vm_ent 108 45 = some (.iload 7, 0, 0, 0) := by decide +kernel
theorem e108_47 : vm_ent 108 47 = some (.aload_n 0, 0, 0, 0) := by decide +kernel
theorem e108_48 : vm_ent 108 48 = some (.getfield 88, 6, 1, 635) := by decide +kernel
theorem e108_51 : vm_ent 108 51 = some (.if_icmp .lt 5, 56, 0, 0) := by decide +kernel
theorem e108_54 : vm_ent 108 54 = some (.iconst 0, 0, 0, 0) := by decide +kernel
theorem e108_55 : vm_ent 108 55 = some (.ireturn, 0, 0, 0) := by decide +kernel
theorem e108_56 : vm_ent 108 56 = some (.lload 5, 0, 0, 0) := by decide +kernel
theorem e108_58 : vm_ent 108 58 = some (.iload 8, 0, 0, 0) := by decide +kernel
theorem e108_60 : vm_ent 108 60 = some (.i2l, 0, 0, 0) := by decide +kernel
theorem e108_61 : vm_ent 108 61 = some (.bipush 8, 0, 0, 0) := by decide +kernel
theorem e108_63 : vm_ent 108 63 = some (.iload 7, 0, 0, 0) := by decide +kernel
theorem e108_65 : vm_ent 108 65 = some (.imul, 0, 0, 0) := by decide +kernel
theorem e108_66 : vm_ent 108 66 = some (.lshl, 0, 0, 0) := by decide +kernel
theorem e108_67 : vm_ent 108 67 = some (.lor, 0, 0, 0) := by decide +kernel
theorem e108_68 : vm_ent 108 68 = some (.lstore 5, 0, 0, 0) := by decide +kernel
theorem e108_70 : vm_ent 108 70 = some (.iinc 7 1, 0, 0, 0) := by decide +kernel
theorem e108_73 : vm_ent 108 73 = some (.goto (-52), 21, 0, 0) := by decide +kernel
theorem e108_76 : vm_ent 108 76 = some (.bipush 60, 0, 0, 0) := by decide +kernel
theorem e108_78 : vm_ent 108 78 = some (.iload_n 1, 0, 0, 0) := by decide +kernel
theorem e108_79 : vm_ent 108 79 = some (.imul, 0, 0, 0) := by decide +kernel
theorem e108_80 : vm_ent 108 80 = some (.istore 7, 0, 0, 0) := by decide +kernel
theorem e108_82 : vm_ent 108 82 = some (.iconst 0, 0, 0, 0) := by decide +kernel
theorem e108_83 : vm_ent 108 83 = some (.istore 8, 0, 0, 0) := by decide +kernel
theorem e108_85 : vm_ent 108 85 = some (.iload 8, 0, 0, 0) := by decide +kernel
theorem e108_87 : vm_ent 108 87 = some (.aload_n 0, 0, 0, 0) := by decide +kernel
theorem e108_88 : vm_ent 108 88 = some (.getfield 20, 6, 6, 640) := by decide +kernel
theorem e108_91 : vm_ent 108 91 = some (.iload_n 1, 0, 0, 0) := by decide +kernel
theorem e108_92 : vm_ent 108 92 = some (.iaload, 0, 0, 0) := by decide +kernel
theorem e108_93 : vm_ent 108 93 = some (.if_icmp .ge 25, 118, 0, 0) := by decide +kernel
theorem e108_96 : vm_ent 108 96 = some (.aload_n 0, 0, 0, 0) := by decide +kernel
theorem e108_97 : vm_ent 108 97 = some (.getfield 27, 6, 8, 642) := by decide +kernel
theorem e108_100 : vm_ent 108 100 = some (.iload 7, 0, 0, 0) := by decide +kernel
theorem e108_102 : vm_ent 108 102 = some (.iload 8, 0, 0, 0) := by decide +kernel
theorem e108_104 : vm_ent 108 104 = some (.iadd, 0, 0, 0) := by decide +kernel
theorem e108_105 : vm_ent 108 105 = some (.laload, 0, 0, 0) := by decide +kernel
theorem e108_106 : vm_ent 108 106 = some (.lload 5, 0, 0, 0) := by decide +kernel
theorem e108_108 : vm_ent 108 108 = some (.lcmp, 0, 0, 0) := by decide +kernel
theorem e108_109 : vm_ent 108 109 = some (.ifCond .eq 9, 118, 0, 0) := by decide +kernel
theorem e108_112 : vm_ent 108 112 = some (.iinc 8 1, 0, 0, 0) := by decide +kernel
theorem e108_115 : vm_ent 108 115 = some (.goto (-30), 85, 0, 0) := by decide +kernel
theorem e108_118 : vm_ent 108 118 = some (.iload 8, 0, 0, 0) := by decide +kernel
theorem e108_120 : vm_ent 108 120 = some (.aload_n 0, 0, 0, 0) := by decide +kernel
theorem e108_121 : vm_ent 108 121 = some (.getfield 20, 6, 6, 640) := by decide +kernel
theorem e108_124 : vm_ent 108 124 = some (.iload_n 1, 0, 0, 0) := by decide +kernel
theorem e108_125 : vm_ent 108 125 = some (.iaload, 0, 0, 0) := by decide +kernel
theorem e108_126 : vm_ent 108 126 = some (.if_icmp .ge 7, 133, 0, 0) := by decide +kernel
theorem e108_129 : vm_ent 108 129 = some (.iconst 1, 0, 0, 0) := by decide +kernel
theorem e108_130 : vm_ent 108 130 = some (.goto 4, 134, 0, 0) := by decide +kernel
theorem e108_133 : vm_ent 108 133 = some (.iconst 0, 0, 0, 0) := by decide +kernel
theorem e108_134 : vm_ent 108 134 = some (.istore 9, 0, 0, 0) := by decide +kernel
theorem e108_136 : vm_ent 108 136 = some (.iload 9, 0, 0, 0) := by decide +kernel
theorem e108_138 : vm_ent 108 138 = some (.ifCond .eq 16, 154, 0, 0) := by decide +kernel
theorem e108_141 : vm_ent 108 141 = some (.aload_n 0, 0, 0, 0) := by decide +kernel
theorem e108_142 : vm_ent 108 142 = some (.getfield 23, 6, 7, 641) := by decide +kernel
theorem e108_145 : vm_ent 108 145 = some (.iload 7, 0, 0, 0) := by decide +kernel
theorem e108_147 : vm_ent 108 147 = some (.iload 8, 0, 0, 0) := by decide +kernel
theorem e108_149 : vm_ent 108 149 = some (.iadd, 0, 0, 0) := by decide +kernel
theorem e108_150 : vm_ent 108 150 = some (.laload, 0, 0, 0) := by decide +kernel
theorem e108_151 : vm_ent 108 151 = some (.goto 4, 155, 0, 0) := by decide +kernel
theorem e108_154 : vm_ent 108 154 = some (.lconst 0, 0, 0, 0) := by decide +kernel
theorem e108_155 : vm_ent 108 155 = some (.lstore 10, 0, 0, 0) := by decide +kernel
theorem e108_157 : vm_ent 108 157 = some (.lload_n 2, 0, 0, 0) := by decide +kernel
theorem e108_158 : vm_ent 108 158 = some (.ldc2_w 247, 18446744073575333888, 0, 893) := by decide +kernel
theorem e108_161 : vm_ent 108 161 = some (.lcmp, 0, 0, 0) := by decide +kernel
theorem e108_162 : vm_ent 108 162 = some (.ifCond .lt 51, 213, 0, 0) := by decide +kernel
theorem e108_165 : vm_ent 108 165 = some (.lload_n 2, 0, 0, 0) := by decide +kernel
theorem e108_166 : vm_ent 108 166 = some (.ldc2_w 249, 134217728, 0, 894) := by decide +kernel
theorem e108_169 : vm_ent 108 169 = some (.lcmp, 0, 0, 0) := by decide +kernel
theorem e108_170 : vm_ent 108 170 = some (.ifCond .gt 43, 213, 0, 0) := by decide +kernel
theorem e108_173 : vm_ent 108 173 = some (.lload 10, 0, 0, 0) := by decide +kernel
theorem e108_175 : vm_ent 108 175 = some (.lload_n 2, 0, 0, 0) := by decide +kernel
theorem e108_176 : vm_ent 108 176 = some (.ladd, 0, 0, 0) := by decide +kernel
theorem e108_177 : vm_ent 108 177 = some (.ldc2_w 116, 18446744073642442752, 0, 848) := by decide +kernel
theorem e108_180 : vm_ent 108 180 = some (.lcmp, 0, 0, 0) := by decide +kernel
theorem e108_181 : vm_ent 108 181 = some (.ifCond .lt 32, 213, 0, 0) := by decide +kernel
theorem e108_184 : vm_ent 108 184 = some (.lload 10, 0, 0, 0) := by decide +kernel
theorem e108_186 : vm_ent 108 186 = some (.lload_n 2, 0, 0, 0) := by decide +kernel
theorem e108_187 : vm_ent 108 187 = some (.ladd, 0, 0, 0) := by decide +kernel
theorem e108_188 : vm_ent 108 188 = some (.ldc2_w 118, 67108864, 0, 849) := by decide +kernel
theorem e108_191 : vm_ent 108 191 = some (.lcmp, 0, 0, 0) := by decide +kernel
theorem e108_192 : vm_ent 108 192 = some (.ifCond .gt 21, 213, 0, 0) := by decide +kernel
theorem e108_195 : vm_ent 108 195 = some (.iload 9, 0, 0, 0) := by decide +kernel
theorem e108_197 : vm_ent 108 197 = some (.ifCond .ne 18, 215, 0, 0) := by decide +kernel
theorem e108_200 : vm_ent 108 200 = some (.lload_n 2, 0, 0, 0) := by decide +kernel
theorem e108_201 : vm_ent 108 201 = some (.lconst 0, 0, 0, 0) := by decide +kernel
theorem e108_202 : vm_ent 108 202 = some (.lcmp, 0, 0, 0) := by decide +kernel
theorem e108_203 : vm_ent 108 203 = some (.ifCond .eq 12, 215, 0, 0) := by decide +kernel
theorem e108_206 : vm_ent 108 206 = some (.iload 8, 0, 0, 0) := by decide +kernel
theorem e108_208 : vm_ent 108 208 = some (.bipush 60, 0, 0, 0) := by decide +kernel
theorem e108_210 : vm_ent 108 210 = some (.if_icmp .ne 5, 215, 0, 0) := by decide +kernel
theorem e108_213 : vm_ent 108 213 = some (.iconst 0, 0, 0, 0) := by decide +kernel
theorem e108_214 : vm_ent 108 214 = some (.ireturn, 0, 0, 0) := by decide +kernel
theorem e108_215 : vm_ent 108 215 = some (.lload_n 2, 0, 0, 0) := by decide +kernel
theorem e108_216 : vm_ent 108 216 = some (.lconst 0, 0, 0, 0) := by decide +kernel
theorem e108_217 : vm_ent 108 217 = some (.lcmp, 0, 0, 0) := by decide +kernel
theorem e108_218 : vm_ent 108 218 = some (.ifCond .ne 5, 223, 0, 0) := by decide +kernel
theorem e108_221 : vm_ent 108 221 = some (.iconst 1, 0, 0, 0) := by decide +kernel
theorem e108_222 : vm_ent 108 222 = some (.ireturn, 0, 0, 0) := by decide +kernel
theorem e108_223 : vm_ent 108 223 = some (.aload_n 0, 0, 0, 0) := by decide +kernel
theorem e108_224 : vm_ent 108 224 = some (.getfield 17, 6, 5, 639) := by decide +kernel
theorem e108_227 : vm_ent 108 227 = some (.iload_n 1, 0, 0, 0) := by decide +kernel
theorem e108_228 : vm_ent 108 228 = some (.baload, 0, 0, 0) := by decide +kernel
theorem e108_229 : vm_ent 108 229 = some (.ifCond .eq 7, 236, 0, 0) := by decide +kernel
theorem e108_232 : vm_ent 108 232 = some (.aload_n 0, 0, 0, 0) := by decide +kernel
theorem e108_233 : vm_ent 108 233 = some (.invokevirtual 225, 101, 4, 771) := by decide +kernel
theorem e108_236 : vm_ent 108 236 = some (.iload 9, 0, 0, 0) := by decide +kernel
theorem e108_238 : vm_ent 108 238 = some (.ifCond .ne 39, 277, 0, 0) := by decide +kernel
theorem e108_241 : vm_ent 108 241 = some (.aload_n 0, 0, 0, 0) := by decide +kernel
theorem e108_242 : vm_ent 108 242 = some (.getfield 23, 6, 7, 641) := by decide +kernel
theorem e108_245 : vm_ent 108 245 = some (.iload 7, 0, 0, 0) := by decide +kernel
theorem e108_247 : vm_ent 108 247 = some (.iload 8, 0, 0, 0) := by decide +kernel
theorem e108_249 : vm_ent 108 249 = some (.iadd, 0, 0, 0) := by decide +kernel
theorem e108_250 : vm_ent 108 250 = some (.lload_n 2, 0, 0, 0) := by decide +kernel
theorem e108_251 : vm_ent 108 251 = some (.lastore, 0, 0, 0) := by decide +kernel
theorem e108_252 : vm_ent 108 252 = some (.aload_n 0, 0, 0, 0) := by decide +kernel
theorem e108_253 : vm_ent 108 253 = some (.getfield 27, 6, 8, 642) := by decide +kernel
theorem e108_256 : vm_ent 108 256 = some (.iload 7, 0, 0, 0) := by decide +kernel
theorem e108_258 : vm_ent 108 258 = some (.iload 8, 0, 0, 0) := by decide +kernel
theorem e108_260 : vm_ent 108 260 = some (.iadd, 0, 0, 0) := by decide +kernel
theorem e108_261 : vm_ent 108 261 = some (.lload 5, 0, 0, 0) := by decide +kernel
theorem e108_263 : vm_ent 108 263 = some (.lastore, 0, 0, 0) := by decide +kernel
theorem e108_264 : vm_ent 108 264 = some (.aload_n 0, 0, 0, 0) := by decide +kernel
theorem e108_265 : vm_ent 108 265 = some (.getfield 20, 6, 6, 640) := by decide +kernel
theorem e108_268 : vm_ent 108 268 = some (.iload_n 1, 0, 0, 0) := by decide +kernel
theorem e108_269 : vm_ent 108 269 = some (.dup2, 0, 0, 0) := by decide +kernel
theorem e108_270 : vm_ent 108 270 = some (.iaload, 0, 0, 0) := by decide +kernel
theorem e108_271 : vm_ent 108 271 = some (.iconst 1, 0, 0, 0) := by decide +kernel
theorem e108_272 : vm_ent 108 272 = some (.iadd, 0, 0, 0) := by decide +kernel
theorem e108_273 : vm_ent 108 273 = some (.iastore, 0, 0, 0) := by decide +kernel
theorem e108_274 : vm_ent 108 274 = some (.goto 106, 380, 0, 0) := by decide +kernel
theorem e108_277 : vm_ent 108 277 = some (.lload 10, 0, 0, 0) := by decide +kernel
theorem e108_279 : vm_ent 108 279 = some (.lload_n 2, 0, 0, 0) := by decide +kernel
theorem e108_280 : vm_ent 108 280 = some (.ladd, 0, 0, 0) := by decide +kernel
theorem e108_281 : vm_ent 108 281 = some (.lconst 0, 0, 0, 0) := by decide +kernel
theorem e108_282 : vm_ent 108 282 = some (.lcmp, 0, 0, 0) := by decide +kernel
theorem e108_283 : vm_ent 108 283 = some (.ifCond .ne 83, 366, 0, 0) := by decide +kernel
theorem e108_286 : vm_ent 108 286 = some (.iload 8, 0, 0, 0) := by decide +kernel
theorem e108_288 : vm_ent 108 288 = some (.istore 12, 0, 0, 0) := by decide +kernel
theorem e108_290 : vm_ent 108 290 = some (.iload 12, 0, 0, 0) := by decide +kernel
theorem e108_292 : vm_ent 108 292 = some (.iconst 1, 0, 0, 0) := by decide +kernel
theorem e108_293 : vm_ent 108 293 = some (.iadd, 0, 0, 0) := by decide +kernel
theorem e108_294 : vm_ent 108 294 = some (.aload_n 0, 0, 0, 0) := by decide +kernel
theorem e108_295 : vm_ent 108 295 = some (.getfield 20, 6, 6, 640) := by decide +kernel
theorem e108_298 : vm_ent 108 298 = some (.iload_n 1, 0, 0, 0) := by decide +kernel
theorem e108_299 : vm_ent 108 299 = some (.iaload, 0, 0, 0) := by decide +kernel
theorem e108_300 : vm_ent 108 300 = some (.if_icmp .ge 53, 353, 0, 0) := by decide +kernel
theorem e108_303 : vm_ent 108 303 = some (.aload_n 0, 0, 0, 0) := by decide +kernel
theorem e108_304 : vm_ent 108 304 = some (.getfield 23, 6, 7, 641) := by decide +kernel
theorem e108_307 : vm_ent 108 307 = some (.iload 7, 0, 0, 0) := by decide +kernel
theorem e108_309 : vm_ent 108 309 = some (.iload 12, 0, 0, 0) := by decide +kernel
theorem e108_311 : vm_ent 108 311 = some (.iadd, 0, 0, 0) := by decide +kernel
theorem e108_312 : vm_ent 108 312 = some (.aload_n 0, 0, 0, 0) := by decide +kernel
theorem e108_313 : vm_ent 108 313 = some (.getfield 23, 6, 7, 641) := by decide +kernel
theorem e108_316 : vm_ent 108 316 = some (.iload 7, 0, 0, 0) := by decide +kernel
theorem e108_318 : vm_ent 108 318 = some (.iload 12, 0, 0, 0) := by decide +kernel
theorem e108_320 : vm_ent 108 320 = some (.iadd, 0, 0, 0) := by decide +kernel
theorem e108_321 : vm_ent 108 321 = some (.iconst 1, 0, 0, 0) := by decide +kernel
theorem e108_322 : vm_ent 108 322 = some (.iadd, 0, 0, 0) := by decide +kernel
theorem e108_323 : vm_ent 108 323 = some (.laload, 0, 0, 0) := by decide +kernel
theorem e108_324 : vm_ent 108 324 = some (.lastore, 0, 0, 0) := by decide +kernel
theorem e108_325 : vm_ent 108 325 = some (.aload_n 0, 0, 0, 0) := by decide +kernel
theorem e108_326 : vm_ent 108 326 = some (.getfield 27, 6, 8, 642) := by decide +kernel
theorem e108_329 : vm_ent 108 329 = some (.iload 7, 0, 0, 0) := by decide +kernel
theorem e108_331 : vm_ent 108 331 = some (.iload 12, 0, 0, 0) := by decide +kernel
theorem e108_333 : vm_ent 108 333 = some (.iadd, 0, 0, 0) := by decide +kernel
theorem e108_334 : vm_ent 108 334 = some (.aload_n 0, 0, 0, 0) := by decide +kernel
theorem e108_335 : vm_ent 108 335 = some (.getfield 27, 6, 8, 642) := by decide +kernel
theorem e108_338 : vm_ent 108 338 = some (.iload 7, 0, 0, 0) := by decide +kernel
theorem e108_340 : vm_ent 108 340 = some (.iload 12, 0, 0, 0) := by decide +kernel
theorem e108_342 : vm_ent 108 342 = some (.iadd, 0, 0, 0) := by decide +kernel
theorem e108_343 : vm_ent 108 343 = some (.iconst 1, 0, 0, 0) := by decide +kernel
theorem e108_344 : vm_ent 108 344 = some (.iadd, 0, 0, 0) := by decide +kernel
theorem e108_345 : vm_ent 108 345 = some (.laload, 0, 0, 0) := by decide +kernel
theorem e108_346 : vm_ent 108 346 = some (.lastore, 0, 0, 0) := by decide +kernel
theorem e108_347 : vm_ent 108 347 = some (.iinc 12 1, 0, 0, 0) := by decide +kernel
theorem e108_350 : vm_ent 108 350 = some (.goto (-60), 290, 0, 0) := by decide +kernel
theorem e108_353 : vm_ent 108 353 = some (.aload_n 0, 0, 0, 0) := by decide +kernel
theorem e108_354 : vm_ent 108 354 = some (.getfield 20, 6, 6, 640) := by decide +kernel
theorem e108_357 : vm_ent 108 357 = some (.iload_n 1, 0, 0, 0) := by decide +kernel
theorem e108_358 : vm_ent 108 358 = some (.dup2, 0, 0, 0) := by decide +kernel
theorem e108_359 : vm_ent 108 359 = some (.iaload, 0, 0, 0) := by decide +kernel
theorem e108_360 : vm_ent 108 360 = some (.iconst 1, 0, 0, 0) := by decide +kernel
theorem e108_361 : vm_ent 108 361 = some (.isub, 0, 0, 0) := by decide +kernel
theorem e108_362 : vm_ent 108 362 = some (.iastore, 0, 0, 0) := by decide +kernel
theorem e108_363 : vm_ent 108 363 = some (.goto 17, 380, 0, 0) := by decide +kernel
theorem e108_366 : vm_ent 108 366 = some (.aload_n 0, 0, 0, 0) := by decide +kernel
theorem e108_367 : vm_ent 108 367 = some (.getfield 23, 6, 7, 641) := by decide +kernel
theorem e108_370 : vm_ent 108 370 = some (.iload 7, 0, 0, 0) := by decide +kernel
theorem e108_372 : vm_ent 108 372 = some (.iload 8, 0, 0, 0) := by decide +kernel
theorem e108_374 : vm_ent 108 374 = some (.iadd, 0, 0, 0) := by decide +kernel
theorem e108_375 : vm_ent 108 375 = some (.lload 10, 0, 0, 0) := by decide +kernel
theorem e108_377 : vm_ent 108 377 = some (.lload_n 2, 0, 0, 0) := by decide +kernel
theorem e108_378 : vm_ent 108 378 = some (.ladd, 0, 0, 0) := by decide +kernel
theorem e108_379 : vm_ent 108 379 = some (.lastore, 0, 0, 0) := by decide +kernel
theorem e108_380 : vm_ent 108 380 = some (.aload_n 0, 0, 0, 0) := by decide +kernel
theorem e108_381 : vm_ent 108 381 = some (.iload_n 1, 0, 0, 0) := by decide +kernel
theorem e108_382 : vm_ent 108 382 = some (.invokevirtual 124, 80, 4, 853) := by decide +kernel
theorem e108_385 : vm_ent 108 385 = some (.iconst 1, 0, 0, 0) := by decide +kernel
theorem e108_386 : vm_ent 108 386 = some (.ireturn, 0, 0, 0) := by decide +kernel
theorem e109_0 : vm_ent 109 0 = some (.aload_n 0, 0, 0, 0) := by decide +kernel
theorem e109_1 : vm_ent 109 1 = some (.iconst 0, 0, 0, 0) := by decide +kernel
theorem e109_2 : vm_ent 109 2 = some (.putfield 84, 6, 0, 634) := by decide +kernel
theorem e109_5 : vm_ent 109 5 = some (.aload_n 0, 0, 0, 0) := by decide +kernel
theorem e109_6 : vm_ent 109 6 = some (.iload_n 1, 0, 0, 0) := by decide +kernel
theorem e109_7 : vm_ent 109 7 = some (.invokevirtual 235, 103, 4, 873) := by decide +kernel
theorem e109_10 : vm_ent 109 10 = some (.ifCond .ne 13, 23, 0, 0) := by decide +kernel
theorem e109_13 : vm_ent 109 13 = some (.aload_n 0, 0, 0, 0) := by decide +kernel
theorem e109_14 : vm_ent 109 14 = some (.getfield 17, 6, 5, 639) := by decide +kernel
theorem e109_17 : vm_ent 109 17 = some (.iload_n 1, 0, 0, 0) := by decide +kernel
theorem e109_18 : vm_ent 109 18 = some (.baload, 0, 0, 0) := by decide +kernel
theorem e109_19 : vm_ent 109 19 = some (.iload_n 2, 0, 0, 0) := by decide +kernel
theorem e109_20 : vm_ent 109 20 = some (.if_icmp .ne 5, 25, 0, 0) := by decide +kernel
theorem e109_23 : vm_ent 109 23 = some (.iconst 0, 0, 0, 0) := by decide +kernel
theorem e109_24 : vm_ent 109 24 = some (.ireturn, 0, 0, 0) := by decide +kernel
theorem e109_25 : vm_ent 109 25 = some (.aload_n 0, 0, 0, 0) := by decide +kernel
theorem e109_26 : vm_ent 109 26 = some (.getfield 17, 6, 5, 639) := by decide +kernel
theorem e109_29 : vm_ent 109 29 = some (.iload_n 1, 0, 0, 0) := by decide +kernel
theorem e109_30 : vm_ent 109 30 = some (.iload_n 2, 0, 0, 0) := by decide +kernel
theorem e109_31 : vm_ent 109 31 = some (.bastore, 0, 0, 0) := by decide +kernel
theorem e109_32 : vm_ent 109 32 = some (.aload_n 0, 0, 0, 0) := by decide +kernel
theorem e109_33 : vm_ent 109 33 = some (.invokevirtual 225, 101, 4, 771) := by decide +kernel
theorem e109_36 : vm_ent 109 36 = some (.iconst 1, 0, 0, 0) := by decide +kernel
theorem e109_37 : vm_ent 109 37 = some (.ireturn, 0, 0, 0) := by decide +kernel
theorem e112_0 : vm_ent 112 0 = some (.aload_n 0, 0, 0, 0) := by decide +kernel
theorem e112_1 : vm_ent 112 1 = some (.iconst 0, 0, 0, 0) := by decide +kernel
theorem e112_2 : vm_ent 112 2 = some (.putfield 84, 6, 0, 634) := by decide +kernel
theorem e112_5 : vm_ent 112 5 = some (.aload_n 0, 0, 0, 0) := by decide +kernel
theorem e112_6 : vm_ent 112 6 = some (.iload_n 1, 0, 0, 0) := by decide +kernel
theorem e112_7 : vm_ent 112 7 = some (.invokevirtual 251, 110, 4, 903) := by decide +kernel
theorem e112_10 : vm_ent 112 10 = some (.ifCond .ne 12, 22, 0, 0) := by decide +kernel
theorem e112_13 : vm_ent 112 13 = some (.iload_n 2, 0, 0, 0) := by decide +kernel
theorem e112_14 : vm_ent 112 14 = some (.ifCond .lt 8, 22, 0, 0) := by decide +kernel
theorem e112_17 : vm_ent 112 17 = some (.iload_n 2, 0, 0, 0) := by decide +kernel
theorem e112_18 : vm_ent 112 18 = some (.iconst 3, 0, 0, 0) := by decide +kernel
theorem e112_19 : vm_ent 112 19 = some (.if_icmp .le 5, 24, 0, 0) := by decide +kernel
theorem e112_22 : vm_ent 112 22 = some (.iconst (-1), 0, 0, 0) := by decide +kernel
theorem e112_23 : vm_ent 112 23 = some (.ireturn, 0, 0, 0) := by decide +kernel
theorem e112_24 : vm_ent 112 24 = some (.iload_n 2, 0, 0, 0) := by decide +kernel
theorem e112_25 : vm_ent 112 25 = some (.ifCond .ne 11, 36, 0, 0) := by decide +kernel
theorem e112_28 : vm_ent 112 28 = some (.aload_n 0, 0, 0, 0) := by decide +kernel
theorem e112_29 : vm_ent 112 29 = some (.iload_n 1, 0, 0, 0) := by decide +kernel
theorem e112_30 : vm_ent 112 30 = some (.invokevirtual 254, 111, 4, 907) := by decide +kernel
theorem e112_33 : vm_ent 112 33 = some (.goto 58, 91, 0, 0) := by decide +kernel
theorem e112_36 : vm_ent 112 36 = some (.iload_n 2, 0, 0, 0) := by decide +kernel
theorem e112_37 : vm_ent 112 37 = some (.iconst 1, 0, 0, 0) := by decide +kernel
theorem e112_38 : vm_ent 112 38 = some (.if_icmp .ne 19, 57, 0, 0) := by decide +kernel
theorem e112_41 : vm_ent 112 41 = some (.aload_n 0, 0, 0, 0) := by decide +kernel
theorem e112_42 : vm_ent 112 42 = some (.bipush 58, 0, 0, 0) := by decide +kernel
theorem e112_44 : vm_ent 112 44 = some (.iload_n 1, 0, 0, 0) := by decide +kernel
theorem e112_45 : vm_ent 112 45 = some (.iadd, 0, 0, 0) := by decide +kernel
theorem e112_46 : vm_ent 112 46 = some (.aload_n 0, 0, 0, 0) := by decide +kernel
theorem e112_47 : vm_ent 112 47 = some (.iload_n 1, 0, 0, 0) := by decide +kernel
theorem e112_48 : vm_ent 112 48 = some (.invokevirtual 254, 111, 4, 907) := by decide +kernel
theorem e112_51 : vm_ent 112 51 = some (.invokevirtual 103, 85, 4, 790) := by decide +kernel
theorem e112_54 : vm_ent 112 54 = some (.goto 37, 91, 0, 0) := by decide +kernel
theorem e112_57 : vm_ent 112 57 = some (.iload_n 2, 0, 0, 0) := by decide +kernel
theorem e112_58 : vm_ent 112 58 = some (.iconst 2, 0, 0, 0) := by decide +kernel
theorem e112_59 : vm_ent 112 59 = some (.if_icmp .ne 15, 74, 0, 0) := by decide +kernel
theorem e112_62 : vm_ent 112 62 = some (.aload_n 0, 0, 0, 0) := by decide +kernel
theorem e112_63 : vm_ent 112 63 = some (.getfield 20, 6, 6, 640) := by decide +kernel
theorem e112_66 : vm_ent 112 66 = some (.bipush 58, 0, 0, 0) := by decide +kernel
theorem e112_68 : vm_ent 112 68 = some (.iload_n 1, 0, 0, 0) := by decide +kernel
theorem e112_69 : vm_ent 112 69 = some (.iadd, 0, 0, 0) := by decide +kernel
theorem e112_70 : vm_ent 112 70 = some (.iaload, 0, 0, 0) := by decide +kernel
theorem e112_71 : vm_ent 112 71 = some (.goto 20, 91, 0, 0) := by decide +kernel
theorem e112_74 : vm_ent 112 74 = some (.aload_n 0, 0, 0, 0) := by decide +kernel
theorem e112_75 : vm_ent 112 75 = some (.getfield 219, 6, 18, 652) := by decide +kernel
theorem e112_78 : vm_ent 112 78 = some (.ifCond .eq 12, 90, 0, 0) := by decide +kernel
theorem e112_81 : vm_ent 112 81 = some (.aload_n 0, 0, 0, 0) := by decide +kernel
theorem e112_82 : vm_ent 112 82 = some (.getfield 48, 6, 26, 660) := by decide +kernel
theorem e112_85 : vm_ent 112 85 = some (.iload_n 1, 0, 0, 0) := by decide +kernel
theorem e112_86 : vm_ent 112 86 = some (.iaload, 0, 0, 0) := by decide +kernel
theorem e112_87 : vm_ent 112 87 = some (.goto 4, 91, 0, 0) := by decide +kernel
theorem e112_90 : vm_ent 112 90 = some (.iconst 0, 0, 0, 0) := by decide +kernel
theorem e112_91 : vm_ent 112 91 = some (.ireturn, 0, 0, 0) := by decide +kernel
theorem e113_0 : vm_ent 113 0 = some (.aload_n 0, 0, 0, 0) := by decide +kernel
theorem e113_1 : vm_ent 113 1 = some (.iconst 0, 0, 0, 0) := by decide +kernel
theorem e113_2 : vm_ent 113 2 = some (.putfield 84, 6, 0, 634) := by decide +kernel
theorem e113_5 : vm_ent 113 5 = some (.iconst 0, 0, 0, 0) := by decide +kernel
theorem e113_6 : vm_ent 113 6 = some (.istore_n 2, 0, 0, 0) := by decide +kernel
theorem e113_7 : vm_ent 113 7 = some (.iconst 0, 0, 0, 0) := by decide +kernel
theorem e113_8 : vm_ent 113 8 = some (.istore_n 3, 0, 0, 0) := by decide +kernel
theorem e113_9 : vm_ent 113 9 = some (.iload_n 3, 0, 0, 0) := by decide +kernel
theorem e113_10 : vm_ent 113 10 = some (.aload_n 0, 0, 0, 0) := by decide +kernel
theorem e113_11 : vm_ent 113 11 = some (.getfield 222, 6, 4, 638) := by decide +kernel
theorem e113_14 : vm_ent 113 14 = some (.if_icmp .ge 26, 40, 0, 0) := by decide +kernel
theorem e113_17 : vm_ent 113 17 = some (.iload_n 2, 0, 0, 0) := by decide +kernel
theorem e113_18 : vm_ent 113 18 = some (.aload_n 0, 0, 0, 0) := by decide +kernel
theorem e113_19 : vm_ent 113 19 = some (.getfield 17, 6, 5, 639) := by decide +kernel
theorem e113_22 : vm_ent 113 22 = some (.iload_n 3, 0, 0, 0) := by decide +kernel
theorem e113_23 : vm_ent 113 23 = some (.baload, 0, 0, 0) := by decide +kernel
theorem e113_24 : vm_ent 113 24 = some (.ifCond .eq 7, 31, 0, 0) := by decide +kernel
theorem e113_27 : vm_ent 113 27 = some (.iconst 1, 0, 0, 0) := by decide +kernel
theorem e113_28 : vm_ent 113 28 = some (.goto 4, 32, 0, 0) := by decide +kernel
theorem e113_31 : vm_ent 113 31 = some (.iconst 0, 0, 0, 0) := by decide +kernel
theorem e113_32 : vm_ent 113 32 = some (.iadd, 0, 0, 0) := by decide +kernel
theorem e113_33 : vm_ent 113 33 = some (.istore_n 2, 0, 0, 0) := by decide +kernel
theorem e113_34 : vm_ent 113 34 = some (.iinc 3 1, 0, 0, 0) := by decide +kernel
theorem e113_37 : vm_ent 113 37 = some (.goto (-28), 9, 0, 0) := by decide +kernel
theorem e113_40 : vm_ent 113 40 = some (.iload_n 1, 0, 0, 0) := by decide +kernel
theorem e113_41 : vm_ent 113 41 = some (.tableswitch 130 0 9 #[55, 60, 65, 67, 72, 77, 82, 87, 92, 111], 55, 0, 0) := by decide +kernel
theorem e113_96 : vm_ent 113 96 = some (.aload_n 0, 0, 0, 0) := by decide +kernel
theorem e113_97 : vm_ent 113 97 = some (.getfield 88, 6, 1, 635) := by decide +kernel
theorem e113_100 : vm_ent 113 100 = some (.ireturn, 0, 0, 0) := by decide +kernel
theorem e113_101 : vm_ent 113 101 = some (.aload_n 0, 0, 0, 0) := by decide +kernel
theorem e113_102 : vm_ent 113 102 = some (.getfield 222, 6, 4, 638) := by decide +kernel
theorem e113_105 : vm_ent 113 105 = some (.ireturn, 0, 0, 0) := by decide +kernel
theorem e113_106 : vm_ent 113 106 = some (.iload_n 2, 0, 0, 0) := by decide +kernel
theorem e113_107 : vm_ent 113 107 = some (.ireturn, 0, 0, 0) := by decide +kernel
theorem e113_108 : vm_ent 113 108 = some (.aload_n 0, 0, 0, 0) := by decide +kernel
theorem e113_109 : vm_ent 113 109 = some (.getfield 213, 6, 11, 645) := by decide +kernel
theorem e113_112 : vm_ent 113 112 = some (.ireturn, 0, 0, 0) := by decide +kernel
theorem e113_113 : vm_ent 113 113 = some (.aload_n 0, 0, 0, 0) := by decide +kernel
theorem e113_114 : vm_ent 113 114 = some (.getfield 185, 6, 14, 648) := by decide +kernel
theorem e113_117 : vm_ent 113 117 = some (.ireturn, 0, 0, 0) := by decide +kernel
theorem e113_118 : vm_ent 113 118 = some (.aload_n 0, 0, 0, 0) := by decide +kernel
theorem e113_119 : vm_ent 113 119 = some (.getfield 228, 6, 15, 649) := by decide +kernel
theorem e113_122 : vm_ent 113 122 = some (.ireturn, 0, 0, 0) := by decide +kernel
theorem e113_123 : vm_ent 113 123 = some (.aload_n 0, 0, 0, 0) := by decide +kernel
theorem e113_124 : vm_ent 113 124 = some (.getfield 194, 6, 16, 650) := by decide +kernel
theorem e113_127 : vm_ent 113 127 = some (.ireturn, 0, 0, 0) := by decide +kernel
theorem e113_128 : vm_ent 113 128 = some (.aload_n 0, 0, 0, 0) := by decide +kernel
theorem e113_129 : vm_ent 113 129 = some (.getfield 238, 6, 17, 651) := by decide +kernel
theorem e113_132 : vm_ent 113 132 = some (.ireturn, 0, 0, 0) := by decide +kernel
theorem e113_133 : vm_ent 113 133 = some (.aload_n 0, 0, 0, 0) := by decide +kernel
theorem e113_134 : vm_ent 113 134 = some (.getfield 181, 6, 13, 647) := by decide +kernel
theorem e113_137 : vm_ent 113 137 = some (.ifCond .eq 13, 150, 0, 0) := by decide +kernel
theorem e113_140 : vm_ent 113 140 = some (.aload_n 0, 0, 0, 0) := by decide +kernel
theorem e113_141 : vm_ent 113 141 = some (.getfield 20, 6, 6, 640) := by decide +kernel
theorem e113_144 : vm_ent 113 144 = some (.bipush 68, 0, 0, 0) := by decide +kernel
theorem e113_146 : vm_ent 113 146 = some (.iaload, 0, 0, 0) := by decide +kernel
theorem e113_147 : vm_ent 113 147 = some (.goto 4, 151, 0, 0) := by decide +kernel
theorem e113_150 : vm_ent 113 150 = some (.iconst 0, 0, 0, 0) := by decide +kernel
theorem e113_151 : vm_ent 113 151 = some (.ireturn, 0, 0, 0) := by decide +kernel
theorem e113_152 : vm_ent 113 152 = some (.aload_n 0, 0, 0, 0) := by decide +kernel
theorem e113_153 : vm_ent 113 153 = some (.getfield 216, 6, 12, 646) := by decide +kernel
theorem e113_156 : vm_ent 113 156 = some (.ifCond .eq 13, 169, 0, 0) := by decide +kernel
theorem e113_159 : vm_ent 113 159 = some (.aload_n 0, 0, 0, 0) := by decide +kernel
theorem e113_160 : vm_ent 113 160 = some (.getfield 20, 6, 6, 640) := by decide +kernel
theorem e113_163 : vm_ent 113 163 = some (.bipush 67, 0, 0, 0) := by decide +kernel
theorem e113_165 : vm_ent 113 165 = some (.iaload, 0, 0, 0) := by decide +kernel
theorem e113_166 : vm_ent 113 166 = some (.goto 4, 170, 0, 0) := by decide +kernel
theorem e113_169 : vm_ent 113 169 = some (.iconst 0, 0, 0, 0) := by decide +kernel
theorem e113_170 : vm_ent 113 170 = some (.ireturn, 0, 0, 0) := by decide +kernel
theorem e113_171 : vm_ent 113 171 = some (.iconst (-1), 0, 0, 0) := by decide +kernel
theorem e113_172 : vm_ent 113 172 = some (.ireturn, 0, 0, 0) := by decide +kernel
theorem e114_0 : vm_ent 114 0 = some (.iload_n 1, 0, 0, 0) := by decide +kernel
theorem e114_1 : vm_ent 114 1 = some (.tableswitch 141 0 4 #[35, 49, 66, 105, 123], 35, 0, 0) := by decide +kernel
theorem e114_36 : vm_ent 114 36 = some (.aload_n 0, 0, 0, 0) := by decide +kernel
theorem e114_37 : vm_ent 114 37 = some (.iload_n 2, 0, 0, 0) := by decide +kernel
theorem e114_38 : vm_ent 114 38 = some (.invokevirtual 235, 103, 4, 873) := by decide +kernel
theorem e114_41 : vm_ent 114 41 = some (.ifCond .eq 7, 48, 0, 0) := by decide +kernel
theorem e114_44 : vm_ent 114 44 = some (.iconst (-1), 0, 0, 0) := by decide +kernel
theorem e114_45 : vm_ent 114 45 = some (.goto 4, 49, 0, 0) := by decide +kernel
theorem e114_48 : vm_ent 114 48 = some (.iload_n 2, 0, 0, 0) := by decide +kernel
theorem e114_49 : vm_ent 114 49 = some (.ireturn, 0, 0, 0) := by decide +kernel
theorem e114_50 : vm_ent 114 50 = some (.aload_n 0, 0, 0, 0) := by decide +kernel
theorem e114_51 : vm_ent 114 51 = some (.iload_n 2, 0, 0, 0) := by decide +kernel
theorem e114_52 : vm_ent 114 52 = some (.invokevirtual 251, 110, 4, 903) := by decide +kernel
theorem e114_55 : vm_ent 114 55 = some (.ifCond .eq 7, 62, 0, 0) := by decide +kernel
theorem e114_58 : vm_ent 114 58 = some (.iconst (-1), 0, 0, 0) := by decide +kernel
theorem e114_59 : vm_ent 114 59 = some (.goto 7, 66, 0, 0) := by decide +kernel
theorem e114_62 : vm_ent 114 62 = some (.bipush 58, 0, 0, 0) := by decide +kernel
theorem e114_64 : vm_ent 114 64 = some (.iload_n 2, 0, 0, 0) := by decide +kernel
theorem e114_65 : vm_ent 114 65 = some (.iadd, 0, 0, 0) := by decide +kernel
theorem e114_66 : vm_ent 114 66 = some (.ireturn, 0, 0, 0) := by decide +kernel
theorem e114_67 : vm_ent 114 67 = some (.aload_n 0, 0, 0, 0) := by decide +kernel
theorem e114_68 : vm_ent 114 68 = some (.iload_n 2, 0, 0, 0) := by decide +kernel
theorem e114_69 : vm_ent 114 69 = some (.invokevirtual 251, 110, 4, 903) := by decide +kernel
theorem e114_72 : vm_ent 114 72 = some (.ifCond .eq 5, 77, 0, 0) := by decide +kernel
theorem e114_75 : vm_ent 114 75 = some (.iconst (-1), 0, 0, 0) := by decide +kernel
theorem e114_76 : vm_ent 114 76 = some (.ireturn, 0, 0, 0) := by decide +kernel
theorem e114_77 : vm_ent 114 77 = some (.aload_n 0, 0, 0, 0) := by decide +kernel
theorem e114_78 : vm_ent 114 78 = some (.bipush 58, 0, 0, 0) := by decide +kernel
theorem e114_80 : vm_ent 114 80 = some (.iload_n 2, 0, 0, 0) := by decide +kernel
theorem e114_81 : vm_ent 114 81 = some (.iadd, 0, 0, 0) := by decide +kernel
theorem e114_82 : vm_ent 114 82 = some (.aload_n 0, 0, 0, 0) := by decide +kernel
theorem e114_83 : vm_ent 114 83 = some (.iload_n 2, 0, 0, 0) := by decide +kernel
theorem e114_84 : vm_ent 114 84 = some (.invokevirtual 254, 111, 4, 907) := by decide +kernel
theorem e114_87 : vm_ent 114 87 = some (.aload_n 0, 0, 0, 0) := by decide +kernel
theorem e114_88 : vm_ent 114 88 = some (.bipush 58, 0, 0, 0) := by decide +kernel
theorem e114_90 : vm_ent 114 90 = some (.iload_n 2, 0, 0, 0) := by decide +kernel
theorem e114_91 : vm_ent 114 91 = some (.iadd, 0, 0, 0) := by decide +kernel
theorem e114_92 : vm_ent 114 92 = some (.aload_n 0, 0, 0, 0) := by decide +kernel
theorem e114_93 : vm_ent 114 93 = some (.iload_n 2, 0, 0, 0) := by decide +kernel
theorem e114_94 : vm_ent 114 94 = some (.invokevirtual 254, 111, 4, 907) := by decide +kernel
theorem e114_97 : vm_ent 114 97 = some (.invokevirtual 103, 85, 4, 790) := by decide +kernel
theorem e114_100 : vm_ent 114 100 = some (.invokevirtual 128, 87, 4, 829) := by decide +kernel
theorem e114_103 : vm_ent 114 103 = some (.bipush 70, 0, 0, 0) := by decide +kernel
theorem e114_105 : vm_ent 114 105 = some (.ireturn, 0, 0, 0) := by decide +kernel
theorem e114_106 : vm_ent 114 106 = some (.iload_n 2, 0, 0, 0) := by decide +kernel
theorem e114_107 : vm_ent 114 107 = some (.ifCond .ne 15, 122, 0, 0) := by decide +kernel
theorem e114_110 : vm_ent 114 110 = some (.aload_n 0, 0, 0, 0) := by decide +kernel
theorem e114_111 : vm_ent 114 111 = some (.getfield 216, 6, 12, 646) := by decide +kernel
theorem e114_114 : vm_ent 114 114 = some (.ifCond .eq 8, 122, 0, 0) := by decide +kernel
theorem e114_117 : vm_ent 114 117 = some (.bipush 67, 0, 0, 0) := by decide +kernel
theorem e114_119 : vm_ent 114 119 = some (.goto 4, 123, 0, 0) := by decide +kernel
theorem e114_122 : vm_ent 114 122 = some (.iconst (-1), 0, 0, 0) := by decide +kernel
theorem e114_123 : vm_ent 114 123 = some (.ireturn, 0, 0, 0) := by decide +kernel
theorem e114_124 : vm_ent 114 124 = some (.iload_n 2, 0, 0, 0) := by decide +kernel
theorem e114_125 : vm_ent 114 125 = some (.ifCond .ne 15, 140, 0, 0) := by decide +kernel
theorem e114_128 : vm_ent 114 128 = some (.aload_n 0, 0, 0, 0) := by decide +kernel
theorem e114_129 : vm_ent 114 129 = some (.getfield 181, 6, 13, 647) := by decide +kernel
theorem e114_132 : vm_ent 114 132 = some (.ifCond .eq 8, 140, 0, 0) := by decide +kernel
theorem e114_135 : vm_ent 114 135 = some (.bipush 68, 0, 0, 0) := by decide +kernel
theorem e114_137 : vm_ent 114 137 = some (.goto 4, 141, 0, 0) := by decide +kernel
theorem e114_140 : vm_ent 114 140 = some (.iconst (-1), 0, 0, 0) := by decide +kernel
theorem e114_141 : vm_ent 114 141 = some (.ireturn, 0, 0, 0) := by decide +kernel
theorem e114_142 : vm_ent 114 142 = some (.iconst (-1), 0, 0, 0) := by decide +kernel
theorem e114_143 : vm_ent 114 143 = some (.ireturn, 0, 0, 0) := by decide +kernel
theorem e115_0 : vm_ent 115 0 = some (.aload_n 0, 0, 0, 0) := by decide +kernel
theorem e115_1 : vm_ent 115 1 = some (.iconst 0, 0, 0, 0) := by decide +kernel
theorem e115_2 : vm_ent 115 2 = some (.putfield 84, 6, 0, 634) := by decide +kernel
theorem e115_5 : vm_ent 115 5 = some (.aload_n 0, 0, 0, 0) := by decide +kernel
theorem e115_6 : vm_ent 115 6 = some (.iload_n 1, 0, 0, 0) := by decide +kernel
theorem e115_7 : vm_ent 115 7 = some (.iload_n 2, 0, 0, 0) := by decide +kernel
theorem e115_8 : vm_ent 115 8 = some (.invokevirtual 257, 114, 4, 919) := by decide +kernel
theorem e115_11 : vm_ent 115 11 = some (.istore 4, 0, 0, 0) := by decide +kernel
theorem e115_13 : vm_ent 115 13 = some (.iload 4, 0, 0, 0) := by decide +kernel
theorem e115_15 : vm_ent 115 15 = some (.ifCond .lt 18, 33, 0, 0) := by decide +kernel
theorem e115_18 : vm_ent 115 18 = some (.iload_n 3, 0, 0, 0) := by decide +kernel
theorem e115_19 : vm_ent 115 19 = some (.ifCond .lt 14, 33, 0, 0) := by decide +kernel
theorem e115_22 : vm_ent 115 22 = some (.iload_n 3, 0, 0, 0) := by decide +kernel
theorem e115_23 : vm_ent 115 23 = some (.aload_n 0, 0, 0, 0) := by decide +kernel
theorem e115_24 : vm_ent 115 24 = some (.getfield 20, 6, 6, 640) := by decide +kernel
theorem e115_27 : vm_ent 115 27 = some (.iload 4, 0, 0, 0) := by decide +kernel
theorem e115_29 : vm_ent 115 29 = some (.iaload, 0, 0, 0) := by decide +kernel
theorem e115_30 : vm_ent 115 30 = some (.if_icmp .lt 7, 37, 0, 0) := by decide +kernel
theorem e115_33 : vm_ent 115 33 = some (.lconst 0, 0, 0, 0) := by decide +kernel
theorem e115_34 : vm_ent 115 34 = some (.goto 15, 49, 0, 0) := by decide +kernel
theorem e115_37 : vm_ent 115 37 = some (.aload_n 0, 0, 0, 0) := by decide +kernel
theorem e115_38 : vm_ent 115 38 = some (.getfield 23, 6, 7, 641) := by decide +kernel
theorem e115_41 : vm_ent 115 41 = some (.bipush 60, 0, 0, 0) := by decide +kernel
theorem e115_43 : vm_ent 115 43 = some (.iload 4, 0, 0, 0) := by decide +kernel
theorem e115_45 : vm_ent 115 45 = some (.imul, 0, 0, 0) := by decide +kernel
theorem e115_46 : vm_ent 115 46 = some (.iload_n 3, 0, 0, 0) := by decide +kernel
theorem e115_47 : vm_ent 115 47 = some (.iadd, 0, 0, 0) := by decide +kernel
theorem e115_48 : vm_ent 115 48 = some (.laload, 0, 0, 0) := by decide +kernel
theorem e115_49 : vm_ent 115 49 = some (.lreturn, 0, 0, 0) := by decide +kernel
theorem e116_0 : vm_ent 116 0 = some (.aload_n 0, 0, 0, 0) := by decide +kernel
theorem e116_1 : vm_ent 116 1 = some (.iconst 0, 0, 0, 0) := by decide +kernel
theorem e116_2 : vm_ent 116 2 = some (.putfield 84, 6, 0, 634) := by decide +kernel
theorem e116_5 : vm_ent 116 5 = some (.aload_n 0, 0, 0, 0) := by decide +kernel
theorem e116_6 : vm_ent 116 6 = some (.iload_n 1, 0, 0, 0) := by decide +kernel
theorem e116_7 : vm_ent 116 7 = some (.iload_n 2, 0, 0, 0) := by decide +kernel
theorem e116_8 : vm_ent 116 8 = some (.invokevirtual 257, 114, 4, 919) := by decide +kernel
theorem e116_11 : vm_ent 116 11 = some (.istore 4, 0, 0, 0) := by decide +kernel
theorem e116_13 : vm_ent 116 13 = some (.iload 4, 0, 0, 0) := by decide +kernel
theorem e116_15 : vm_ent 116 15 = some (.ifCond .lt 18, 33, 0, 0) := by decide +kernel
theorem e116_18 : vm_ent 116 18 = some (.iload_n 3, 0, 0, 0) := by decide +kernel
theorem e116_19 : vm_ent 116 19 = some (.ifCond .lt 14, 33, 0, 0) := by decide +kernel
theorem e116_22 : vm_ent 116 22 = some (.iload_n 3, 0, 0, 0) := by decide +kernel
theorem e116_23 : vm_ent 116 23 = some (.aload_n 0, 0, 0, 0) := by decide +kernel
theorem e116_24 : vm_ent 116 24 = some (.getfield 20, 6, 6, 640) := by decide +kernel
theorem e116_27 : vm_ent 116 27 = some (.iload 4, 0, 0, 0) := by decide +kernel
theorem e116_29 : vm_ent 116 29 = some (.iaload, 0, 0, 0) := by decide +kernel
theorem e116_30 : vm_ent 116 30 = some (.if_icmp .lt 5, 35, 0, 0) := by decide +kernel
theorem e116_33 : vm_ent 116 33 = some (.iconst (-1), 0, 0, 0) := by decide +kernel
theorem e116_34 : vm_ent 116 34 = some (.ireturn, 0, 0, 0) := by decide +kernel
theorem e116_35 : vm_ent 116 35 = some (.iconst 0, 0, 0, 0) := by decide +kernel
theorem e116_36 : vm_ent 116 36 = some (.istore 5, 0, 0, 0) := by decide +kernel
theorem e116_38 : vm_ent 116 38 = some (.iconst 0, 0, 0, 0) := by decide +kernel
theorem e116_39 : vm_ent 116 39 = some (.istore 6, 0, 0, 0) := by decide +kernel
theorem e116_41 : vm_ent 116 41 = some (.iload 6, 0, 0, 0) := by decide +kernel
theorem e116_43 : vm_ent 116 43 = some (.bipush 8, 0, 0, 0) := by decide +kernel
theorem e116_45 : vm_ent 116 45 = some (.if_icmp .ge 36, 81, 0, 0) := by decide +kernel
theorem e116_48 : vm_ent 116 48 = some (.iload 5, 0, 0, 0) := by decide +kernel
theorem e116_50 : vm_ent 116 50 = some (.aload_n 0, 0, 0, 0) := by decide +kernel
theorem e116_51 : vm_ent 116 51 = some (.getfield 27, 6, 8, 642) := by decide +kernel
theorem e116_54 : vm_ent 116 54 = some (.bipush 60, 0, 0, 0) := by decide +kernel
theorem e116_56 : vm_ent 116 56 = some (.iload 4, 0, 0, 0) := by decide +kernel
theorem e116_58 : vm_ent 116 58 = some (.imul, 0, 0, 0) := by decide +kernel
theorem e116_59 : vm_ent 116 59 = some (.iload_n 3, 0, 0, 0) := by decide +kernel
theorem e116_60 : vm_ent 116 60 = some (.iadd, 0, 0, 0) := by decide +kernel
theorem e116_61 : vm_ent 116 61 = some (.laload, 0, 0, 0) := by decide +kernel
theorem e116_62 : vm_ent 116 62 = some (.iload 6, 0, 0, 0) := by decide +kernel
theorem e116_64 : vm_ent 116 64 = some (.invokestatic 91, 78, 1, 794) := by decide +kernel
theorem e116_67 : vm_ent 116 67 = some (.iconst 4, 0, 0, 0) := by decide +kernel
theorem e116_68 : vm_ent 116 68 = some (.iload 6, 0, 0, 0) := by decide +kernel
theorem e116_70 : vm_ent 116 70 = some (.imul, 0, 0, 0) := by decide +kernel
theorem e116_71 : vm_ent 116 71 = some (.ishl, 0, 0, 0) := by decide +kernel
theorem e116_72 : vm_ent 116 72 = some (.ior, 0, 0, 0) := by decide +kernel
theorem e116_73 : vm_ent 116 73 = some (.istore 5, 0, 0, 0) := by decide +kernel
theorem e116_75 : vm_ent 116 75 = some (.iinc 6 1, 0, 0, 0) := by decide +kernel
theorem e116_78 : vm_ent 116 78 = some (.goto (-37), 41, 0, 0) := by decide +kernel
theorem e116_81 : vm_ent 116 81 = some (.iload 5, 0, 0, 0) := by decide +kernel
theorem e116_83 : vm_ent 116 83 = some (.ireturn, 0, 0, 0) := by decide +kernel
theorem e117_0 : vm_ent 117 0 = some (.aload_n 0, 0, 0, 0) := by decide +kernel
theorem e117_1 : vm_ent 117 1 = some (.iconst 0, 0, 0, 0) := by decide +kernel
theorem e117_2 : vm_ent 117 2 = some (.putfield 84, 6, 0, 634) := by decide +kernel
theorem e117_5 : vm_ent 117 5 = some (.iload_n 1, 0, 0, 0) := by decide +kernel
theorem e117_6 : vm_ent 117 6 = some (.ifCond .lt 11, 17, 0, 0) := by decide +kernel
theorem e117_9 : vm_ent 117 9 = some (.iload_n 1, 0, 0, 0) := by decide +kernel
theorem e117_10 : vm_ent 117 10 = some (.aload_n 0, 0, 0, 0) := by decide +kernel
theorem e117_11 : vm_ent 117 11 = some (.getfield 88, 6, 1, 635) := by decide +kernel
theorem e117_14 : vm_ent 117 14 = some (.if_icmp .lt 5, 19, 0, 0) := by decide +kernel
theorem e117_17 : vm_ent 117 17 = some (.iconst 0, 0, 0, 0) := by decide +kernel
theorem e117_18 : vm_ent 117 18 = some (.ireturn, 0, 0, 0) := by decide +kernel
theorem e117_19 : vm_ent 117 19 = some (.aload_n 0, 0, 0, 0) := by decide +kernel
theorem e117_20 : vm_ent 117 20 = some (.getfield 30, 6, 9, 643) := by decide +kernel
theorem e117_23 : vm_ent 117 23 = some (.iload_n 1, 0, 0, 0) := by decide +kernel
theorem e117_24 : vm_ent 117 24 = some (.lload_n 2, 0, 0, 0) := by decide +kernel
theorem e117_25 : vm_ent 117 25 = some (.lastore, 0, 0, 0) := by decide +kernel
theorem e117_26 : vm_ent 117 26 = some (.iconst 1, 0, 0, 0) := by decide +kernel
theorem e117_27 : vm_ent 117 27 = some (.ireturn, 0, 0, 0) := by decide +kernel
theorem e120_0 : vm_ent 120 0 = some (.aload_n 0, 0, 0, 0) := by decide +kernel
theorem e120_1 : vm_ent 120 1 = some (.iconst 0, 0, 0, 0) := by decide +kernel
theorem e120_2 : vm_ent 120 2 = some (.putfield 84, 6, 0, 634) := by decide +kernel
theorem e120_5 : vm_ent 120 5 = some (.aload_n 0, 0, 0, 0) := by decide +kernel
theorem e120_6 : vm_ent 120 6 = some (.iload_n 1, 0, 0, 0) := by decide +kernel
theorem e120_7 : vm_ent 120 7 = some (.iload_n 2, 0, 0, 0) := by decide +kernel
theorem e120_8 : vm_ent 120 8 = some (.invokevirtual 257, 114, 4, 919) := by decide +kernel
theorem e120_11 : vm_ent 120 11 = some (.istore_n 3, 0, 0, 0) := by decide +kernel
theorem e120_12 : vm_ent 120 12 = some (.iload_n 3, 0, 0, 0) := by decide +kernel
theorem e120_13 : vm_ent 120 13 = some (.ifCond .ge 7, 20, 0, 0) := by decide +kernel
theorem e120_16 : vm_ent 120 16 = some (.lconst 0, 0, 0, 0) := by decide +kernel
theorem e120_17 : vm_ent 120 17 = some (.goto 8, 25, 0, 0) := by decide +kernel
theorem e120_20 : vm_ent 120 20 = some (.aload_n 0, 0, 0, 0) := by decide +kernel
theorem e120_21 : vm_ent 120 21 = some (.iload_n 3, 0, 0, 0) := by decide +kernel
theorem e120_22 : vm_ent 120 22 = some (.invokevirtual 263, 119, 4, 935) := by decide +kernel
theorem e120_25 : vm_ent 120 25 = some (.lreturn, 0, 0, 0) := by decide +kernel
theorem e121_0 : vm_ent 121 0 = some (.aload_n 0, 0, 0, 0) := by decide +kernel
theorem e121_1 : vm_ent 121 1 = some (.iconst 0, 0, 0, 0) := by decide +kernel
theorem e121_2 : vm_ent 121 2 = some (.putfield 84, 6, 0, 634) := by decide +kernel
theorem e121_5 : vm_ent 121 5 = some (.aload_n 0, 0, 0, 0) := by decide +kernel
theorem e121_6 : vm_ent 121 6 = some (.iload_n 1, 0, 0, 0) := by decide +kernel
theorem e121_7 : vm_ent 121 7 = some (.invokevirtual 251, 110, 4, 903) := by decide +kernel
theorem e121_10 : vm_ent 121 10 = some (.ifCond .ne 10, 20, 0, 0) := by decide +kernel
theorem e121_13 : vm_ent 121 13 = some (.aload_n 0, 0, 0, 0) := by decide +kernel
theorem e121_14 : vm_ent 121 14 = some (.getfield 219, 6, 18, 652) := by decide +kernel
theorem e121_17 : vm_ent 121 17 = some (.ifCond .ne 5, 22, 0, 0) := by decide +kernel
theorem e121_20 : vm_ent 121 20 = some (.lconst 0, 0, 0, 0) := by decide +kernel
theorem e121_21 : vm_ent 121 21 = some (.lreturn, 0, 0, 0) := by decide +kernel
theorem e121_22 : vm_ent 121 22 = some (.iconst 0, 0, 0, 0) := by decide +kernel
theorem e121_23 : vm_ent 121 23 = some (.istore_n 2, 0, 0, 0) := by decide +kernel
theorem e121_24 : vm_ent 121 24 = some (.iload_n 2, 0, 0, 0) := by decide +kernel
theorem e121_25 : vm_ent 121 25 = some (.bipush 8, 0, 0, 0) := by decide +kernel
theorem e121_27 : vm_ent 121 27 = some (.if_icmp .ge 16, 43, 0, 0) := by decide +kernel
theorem e121_30 : vm_ent 121 30 = some (.aload_n 0, 0, 0, 0) := by decide +kernel
theorem e121_31 : vm_ent 121 31 = some (.getfield 81, 6, 43, 677) := by decide +kernel
theorem e121_34 : vm_ent 121 34 = some (.iload_n 2, 0, 0, 0) := by decide +kernel
theorem e121_35 : vm_ent 121 35 = some (.lconst 0, 0, 0, 0) := by decide +kernel
theorem e121_36 : vm_ent 121 36 = some (.lastore, 0, 0, 0) := by decide +kernel
theorem e121_37 : vm_ent 121 37 = some (.iinc 2 1, 0, 0, 0) := by decide +kernel
theorem e121_40 : vm_ent 121 40 = some (.goto (-16), 24, 0, 0) := by decide +kernel
theorem e121_43 : vm_ent 121 43 = some (.iconst 0, 0, 0, 0) := by decide +kernel
theorem e121_44 : vm_ent 121 44 = some (.istore_n 2, 0, 0, 0) := by decide +kernel
theorem e121_45 : vm_ent 121 45 = some (.iload_n 2, 0, 0, 0) := by decide +kernel
theorem e121_46 : vm_ent 121 46 = some (.aload_n 0, 0, 0, 0) := by decide +kernel
theorem e121_47 : vm_ent 121 47 = some (.getfield 241, 6, 19, 653) := by decide +kernel
theorem e121_50 : vm_ent 121 50 = some (.if_icmp .ge 122, 172, 0, 0) := by decide +kernel
theorem e121_53 : vm_ent 121 53 = some (.aload_n 0, 0, 0, 0) := by decide +kernel
theorem e121_54 : vm_ent 121 54 = some (.getfield 33, 6, 20, 654) := by decide +kernel
theorem e121_57 : vm_ent 121 57 = some (.iload_n 2, 0, 0, 0) := by decide +kernel
theorem e121_58 : vm_ent 121 58 = some (.iaload, 0, 0, 0) := by decide +kernel
theorem e121_59 : vm_ent 121 59 = some (.istore_n 3, 0, 0, 0) := by decide +kernel
theorem e121_60 : vm_ent 121 60 = some (.aload_n 0, 0, 0, 0) := by decide +kernel
theorem e121_61 : vm_ent 121 61 = some (.iconst 2, 0, 0, 0) := by decide +kernel
theorem e121_62 : vm_ent 121 62 = some (.iload_n 3, 0, 0, 0) := by decide +kernel
theorem e121_63 : vm_ent 121 63 = some (.invokevirtual 257, 114, 4, 919) := by decide +kernel
theorem e121_66 : vm_ent 121 66 = some (.istore 4, 0, 0, 0) := by decide +kernel
theorem e121_68 : vm_ent 121 68 = some (.aload_n 0, 0, 0, 0) := by decide +kernel
theorem e121_69 : vm_ent 121 69 = some (.iload 4, 0, 0, 0) := by decide +kernel
theorem e121_71 : vm_ent 121 71 = some (.invokevirtual 263, 119, 4, 935) := by decide +kernel
theorem e121_74 : vm_ent 121 74 = some (.lstore 5, 0, 0, 0) := by decide +kernel
theorem e121_76 : vm_ent 121 76 = some (.iconst 0, 0, 0, 0) := by decide +kernel
theorem e121_77 : vm_ent 121 77 = some (.istore 7, 0, 0, 0) := by decide +kernel
theorem e121_79 : vm_ent 121 79 = some (.iload 7, 0, 0, 0) := by decide +kernel
theorem e121_81 : vm_ent 121 81 = some (.aload_n 0, 0, 0, 0) := by decide +kernel
theorem e121_82 : vm_ent 121 82 = some (.getfield 213, 6, 11, 645) := by decide +kernel
theorem e121_85 : vm_ent 121 85 = some (.if_icmp .ge 21, 106, 0, 0) := by decide +kernel
theorem e121_88 : vm_ent 121 88 = some (.aload_n 0, 0, 0, 0) := by decide +kernel
theorem e121_89 : vm_ent 121 89 = some (.getfield 81, 6, 43, 677) := by decide +kernel
theorem e121_92 : vm_ent 121 92 = some (.iload 7, 0, 0, 0) := by decide +kernel
theorem e121_94 : vm_ent 121 94 = some (.dup2, 0, 0, 0) := by decide +kernel
theorem e121_95 : vm_ent 121 95 = some (.laload, 0, 0, 0) := by decide +kernel
theorem e121_96 : vm_ent 121 96 = some (.lload 5, 0, 0, 0) := by decide +kernel
theorem e121_98 : vm_ent 121 98 = some (.lmul, 0, 0, 0) := by decide +kernel
theorem e121_99 : vm_ent 121 99 = some (.lastore, 0, 0, 0) := by decide +kernel
theorem e121_100 : vm_ent 121 100 = some (.iinc 7 1, 0, 0, 0) := by decide +kernel
theorem e121_103 : vm_ent 121 103 = some (.goto (-24), 79, 0, 0) := by decide +kernel
theorem e121_106 : vm_ent 121 106 = some (.aload_n 0, 0, 0, 0) := by decide +kernel
theorem e121_107 : vm_ent 121 107 = some (.getfield 36, 6, 21, 655) := by decide +kernel
theorem e121_110 : vm_ent 121 110 = some (.iload_n 2, 0, 0, 0) := by decide +kernel
theorem e121_111 : vm_ent 121 111 = some (.iaload, 0, 0, 0) := by decide +kernel
theorem e121_112 : vm_ent 121 112 = some (.istore 7, 0, 0, 0) := by decide +kernel
theorem e121_114 : vm_ent 121 114 = some (.iload 7, 0, 0, 0) := by decide +kernel
theorem e121_116 : vm_ent 121 116 = some (.aload_n 0, 0, 0, 0) := by decide +kernel
theorem e121_117 : vm_ent 121 117 = some (.getfield 36, 6, 21, 655) := by decide +kernel
theorem e121_120 : vm_ent 121 120 = some (.iload_n 2, 0, 0, 0) := by decide +kernel
theorem e121_121 : vm_ent 121 121 = some (.iaload, 0, 0, 0) := by decide +kernel
theorem e121_122 : vm_ent 121 122 = some (.aload_n 0, 0, 0, 0) := by decide +kernel
theorem e121_123 : vm_ent 121 123 = some (.getfield 39, 6, 22, 656) := by decide +kernel
theorem e121_126 : vm_ent 121 126 = some (.iload_n 2, 0, 0, 0) := by decide +kernel
theorem e121_127 : vm_ent 121 127 = some (.iaload, 0, 0, 0) := by decide +kernel
theorem e121_128 : vm_ent 121 128 = some (.iadd, 0, 0, 0) := by decide +kernel
theorem e121_129 : vm_ent 121 129 = some (.if_icmp .ge 37, 166, 0, 0) := by decide +kernel
theorem e121_132 : vm_ent 121 132 = some (.aload_n 0, 0, 0, 0) := by decide +kernel
theorem e121_133 : vm_ent 121 133 = some (.getfield 81, 6, 43, 677) := by decide +kernel
theorem e121_136 : vm_ent 121 136 = some (.iload_n 3, 0, 0, 0) := by decide +kernel
theorem e121_137 : vm_ent 121 137 = some (.dup2, 0, 0, 0) := by decide +kernel
theorem e121_138 : vm_ent 121 138 = some (.laload, 0, 0, 0) := by decide +kernel
theorem e121_139 : vm_ent 121 139 = some (.aload_n 0, 0, 0, 0) := by decide +kernel
theorem e121_140 : vm_ent 121 140 = some (.getfield 42, 6, 23, 657) := by decide +kernel
theorem e121_143 : vm_ent 121 143 = some (.iload 7, 0, 0, 0) := by decide +kernel
theorem e121_145 : vm_ent 121 145 = some (.laload, 0, 0, 0) := by decide +kernel
theorem e121_146 : vm_ent 121 146 = some (.aload_n 0, 0, 0, 0) := by decide +kernel
theorem e121_147 : vm_ent 121 147 = some (.aload_n 0, 0, 0, 0) := by decide +kernel
theorem e121_148 : vm_ent 121 148 = some (.getfield 45, 6, 24, 658) := by decide +kernel
theorem e121_151 : vm_ent 121 151 = some (.iload 7, 0, 0, 0) := by decide +kernel
theorem e121_153 : vm_ent 121 153 = some (.laload, 0, 0, 0) := by decide +kernel
theorem e121_154 : vm_ent 121 154 = some (.invokevirtual 260, 118, 4, 939) := by decide +kernel
theorem e121_157 : vm_ent 121 157 = some (.lmul, 0, 0, 0) := by decide +kernel
theorem e121_158 : vm_ent 121 158 = some (.ladd, 0, 0, 0) := by decide +kernel
theorem e121_159 : vm_ent 121 159 = some (.lastore, 0, 0, 0) := by decide +kernel
theorem e121_160 : vm_ent 121 160 = some (.iinc 7 1, 0, 0, 0) := by decide +kernel
theorem e121_163 : vm_ent 121 163 = some (.goto (-49), 114, 0, 0) := by decide +kernel
theorem e121_166 : vm_ent 121 166 = some (.iinc 2 1, 0, 0, 0) := by decide +kernel
theorem e121_169 : vm_ent 121 169 = some (.goto (-124), 45, 0, 0) := by decide +kernel
theorem e121_172 : vm_ent 121 172 = some (.aload_n 0, 0, 0, 0) := by decide +kernel
theorem e121_173 : vm_ent 121 173 = some (.getfield 81, 6, 43, 677) := by decide +kernel
theorem e121_176 : vm_ent 121 176 = some (.iload_n 1, 0, 0, 0) := by decide +kernel
theorem e121_177 : vm_ent 121 177 = some (.laload, 0, 0, 0) := by decide +kernel
theorem e121_178 : vm_ent 121 178 = some (.lreturn, 0, 0, 0) := by decide +kernel
theorem e102_0 : vm_ent 102 0 = some (.aload_n 0, 0, 0, 0) := by decide +kernel
theorem e102_1 : vm_ent 102 1 = some (.iconst 0, 0, 0, 0) := by decide +kernel
theorem e102_2 : vm_ent 102 2 = some (.putfield 84, 6, 0, 634) := by decide +kernel
theorem e102_5 : vm_ent 102 5 = some (.iconst 0, 0, 0, 0) := by decide +kernel
theorem e102_6 : vm_ent 102 6 = some (.istore_n 1, 0, 0, 0) := by decide +kernel
theorem e102_7 : vm_ent 102 7 = some (.iconst 0, 0, 0, 0) := by decide +kernel
theorem e102_8 : vm_ent 102 8 = some (.istore_n 2, 0, 0, 0) := by decide +kernel
theorem e102_9 : vm_ent 102 9 = some (.iload_n 2, 0, 0, 0) := by decide +kernel
theorem e102_10 : vm_ent 102 10 = some (.aload_n 0, 0, 0, 0) := by decide +kernel
theorem e102_11 : vm_ent 102 11 = some (.getfield 222, 6, 4, 638) := by decide +kernel
theorem e102_14 : vm_ent 102 14 = some (.if_icmp .ge 35, 49, 0, 0) := by decide +kernel
theorem e102_17 : vm_ent 102 17 = some (.iload_n 1, 0, 0, 0) := by decide +kernel
theorem e102_18 : vm_ent 102 18 = some (.aload_n 0, 0, 0, 0) := by decide +kernel
theorem e102_19 : vm_ent 102 19 = some (.getfield 17, 6, 5, 639) := by decide +kernel
theorem e102_22 : vm_ent 102 22 = some (.iload_n 2, 0, 0, 0) := by decide +kernel
theorem e102_23 : vm_ent 102 23 = some (.baload, 0, 0, 0) := by decide +kernel
theorem e102_24 : vm_ent 102 24 = some (.ifCond .eq 16, 40, 0, 0) := by decide +kernel
theorem e102_27 : vm_ent 102 27 = some (.aload_n 0, 0, 0, 0) := by decide +kernel
theorem e102_28 : vm_ent 102 28 = some (.getfield 20, 6, 6, 640) := by decide +kernel
theorem e102_31 : vm_ent 102 31 = some (.iload_n 2, 0, 0, 0) := by decide +kernel
theorem e102_32 : vm_ent 102 32 = some (.iaload, 0, 0, 0) := by decide +kernel
theorem e102_33 : vm_ent 102 33 = some (.ifCond .le 7, 40, 0, 0) := by decide +kernel
theorem e102_36 : vm_ent 102 36 = some (.iconst 1, 0, 0, 0) := by decide +kernel
theorem e102_37 : vm_ent 102 37 = some (.goto 4, 41, 0, 0) := by decide +kernel
theorem e102_40 : vm_ent 102 40 = some (.iconst 0, 0, 0, 0) := by decide +kernel
theorem e102_41 : vm_ent 102 41 = some (.iadd, 0, 0, 0) := by decide +kernel
theorem e102_42 : vm_ent 102 42 = some (.istore_n 1, 0, 0, 0) := by decide +kernel
theorem e102_43 : vm_ent 102 43 = some (.iinc 2 1, 0, 0, 0) := by decide +kernel
theorem e102_46 : vm_ent 102 46 = some (.goto (-37), 9, 0, 0) := by decide +kernel
theorem e102_49 : vm_ent 102 49 = some (.iload_n 1, 0, 0, 0) := by decide +kernel
theorem e102_50 : vm_ent 102 50 = some (.ifCond .ne 5, 55, 0, 0) := by decide +kernel
theorem e102_53 : vm_ent 102 53 = some (.iconst (-1), 0, 0, 0) := by decide +kernel
theorem e102_54 : vm_ent 102 54 = some (.ireturn, 0, 0, 0) := by decide +kernel
theorem e102_55 : vm_ent 102 55 = some (.aload_n 0, 0, 0, 0) := by decide +kernel
theorem e102_56 : vm_ent 102 56 = some (.invokevirtual 225, 101, 4, 771) := by decide +kernel
theorem e102_59 : vm_ent 102 59 = some (.aload_n 0, 0, 0, 0) := by decide +kernel
theorem e102_60 : vm_ent 102 60 = some (.iconst 0, 0, 0, 0) := by decide +kernel
theorem e102_61 : vm_ent 102 61 = some (.putfield 181, 6, 13, 647) := by decide +kernel
theorem e102_64 : vm_ent 102 64 = some (.aload_n 0, 0, 0, 0) := by decide +kernel
theorem e102_65 : vm_ent 102 65 = some (.iconst 0, 0, 0, 0) := by decide +kernel
theorem e102_66 : vm_ent 102 66 = some (.putfield 185, 6, 14, 648) := by decide +kernel
theorem e102_69 : vm_ent 102 69 = some (.aload_n 0, 0, 0, 0) := by decide +kernel
theorem e102_70 : vm_ent 102 70 = some (.iconst 0, 0, 0, 0) := by decide +kernel
theorem e102_71 : vm_ent 102 71 = some (.putfield 194, 6, 16, 650) := by decide +kernel
theorem e102_74 : vm_ent 102 74 = some (.aload_n 0, 0, 0, 0) := by decide +kernel
theorem e102_75 : vm_ent 102 75 = some (.iconst 0, 0, 0, 0) := by decide +kernel
theorem e102_76 : vm_ent 102 76 = some (.putfield 164, 6, 42, 676) := by decide +kernel
theorem e102_79 : vm_ent 102 79 = some (.iconst (-1), 0, 0, 0) := by decide +kernel
theorem e102_80 : vm_ent 102 80 = some (.istore_n 2, 0, 0, 0) := by decide +kernel
theorem e102_81 : vm_ent 102 81 = some (.iconst 0, 0, 0, 0) := by decide +kernel
theorem e102_82 : vm_ent 102 82 = some (.istore_n 3, 0, 0, 0) := by decide +kernel
theorem e102_83 : vm_ent 102 83 = some (.iload_n 3, 0, 0, 0) := by decide +kernel
theorem e102_84 : vm_ent 102 84 = some (.aload_n 0, 0, 0, 0) := by decide +kernel
theorem e102_85 : vm_ent 102 85 = some (.getfield 222, 6, 4, 638) := by decide +kernel
theorem e102_88 : vm_ent 102 88 = some (.if_icmp .ge 87, 175, 0, 0) := by decide +kernel
theorem e102_91 : vm_ent 102 91 = some (.aload_n 0, 0, 0, 0) := by decide +kernel
theorem e102_92 : vm_ent 102 92 = some (.getfield 17, 6, 5, 639) := by decide +kernel
theorem e102_95 : vm_ent 102 95 = some (.iload_n 3, 0, 0, 0) := by decide +kernel
theorem e102_96 : vm_ent 102 96 = some (.baload, 0, 0, 0) := by decide +kernel
theorem e102_97 : vm_ent 102 97 = some (.ifCond .eq 72, 169, 0, 0) := by decide +kernel
theorem e102_100 : vm_ent 102 100 = some (.aload_n 0, 0, 0, 0) := by decide +kernel
theorem e102_101 : vm_ent 102 101 = some (.getfield 20, 6, 6, 640) := by decide +kernel
theorem e102_104 : vm_ent 102 104 = some (.iload_n 3, 0, 0, 0) := by decide +kernel
theorem e102_105 : vm_ent 102 105 = some (.iaload, 0, 0, 0) := by decide +kernel
theorem e102_106 : vm_ent 102 106 = some (.ifCond .le 63, 169, 0, 0) := by decide +kernel
theorem e102_109 : vm_ent 102 109 = some (.aload_n 0, 0, 0, 0) := by decide +kernel
theorem e102_110 : vm_ent 102 110 = some (.iload_n 3, 0, 0, 0) := by decide +kernel
theorem e102_111 : vm_ent 102 111 = some (.bipush 16, 0, 0, 0) := by decide +kernel
theorem e102_113 : vm_ent 102 113 = some (.aload_n 0, 0, 0, 0) := by decide +kernel
theorem e102_114 : vm_ent 102 114 = some (.getfield 164, 6, 42, 676) := by decide +kernel
theorem e102_117 : vm_ent 102 117 = some (.iadd, 0, 0, 0) := by decide +kernel
theorem e102_118 : vm_ent 102 118 = some (.invokevirtual 177, 81, 4, 775) := by decide +kernel
theorem e102_121 : vm_ent 102 121 = some (.aload_n 0, 0, 0, 0) := by decide +kernel
theorem e102_122 : vm_ent 102 122 = some (.bipush 16, 0, 0, 0) := by decide +kernel
theorem e102_124 : vm_ent 102 124 = some (.aload_n 0, 0, 0, 0) := by decide +kernel
theorem e102_125 : vm_ent 102 125 = some (.getfield 164, 6, 42, 676) := by decide +kernel
theorem e102_128 : vm_ent 102 128 = some (.iadd, 0, 0, 0) := by decide +kernel
theorem e102_129 : vm_ent 102 129 = some (.invokevirtual 201, 83, 4, 779) := by decide +kernel
theorem e102_132 : vm_ent 102 132 = some (.iload_n 2, 0, 0, 0) := by decide +kernel
theorem e102_133 : vm_ent 102 133 = some (.ifCond .ge 26, 159, 0, 0) := by decide +kernel
theorem e102_136 : vm_ent 102 136 = some (.aload_n 0, 0, 0, 0) := by decide +kernel
theorem e102_137 : vm_ent 102 137 = some (.bipush 16, 0, 0, 0) := by decide +kernel
theorem e102_139 : vm_ent 102 139 = some (.aload_n 0, 0, 0, 0) := by decide +kernel
theorem e102_140 : vm_ent 102 140 = some (.getfield 164, 6, 42, 676) := by decide +kernel
theorem e102_143 : vm_ent 102 143 = some (.iadd, 0, 0, 0) := by decide +kernel
theorem e102_144 : vm_ent 102 144 = some (.invokevirtual 152, 86, 4, 786) := by decide +kernel
theorem e102_147 : vm_ent 102 147 = some (.iconst (-1), 0, 0, 0) := by decide +kernel
theorem e102_148 : vm_ent 102 148 = some (.if_icmp .ne 11, 159, 0, 0) := by decide +kernel
theorem e102_151 : vm_ent 102 151 = some (.bipush 16, 0, 0, 0) := by decide +kernel
theorem e102_153 : vm_ent 102 153 = some (.aload_n 0, 0, 0, 0) := by decide +kernel
theorem e102_154 : vm_ent 102 154 = some (.getfield 164, 6, 42, 676) := by decide +kernel
theorem e102_157 : vm_ent 102 157 = some (.iadd, 0, 0, 0) := by decide +kernel
theorem e102_158 : vm_ent 102 158 = some (.istore_n 2, 0, 0, 0) := by decide +kernel
theorem e102_159 : vm_ent 102 159 = some (.aload_n 0, 0, 0, 0) := by decide +kernel
theorem e102_160 : vm_ent 102 160 = some (.dup, 0, 0, 0) := by decide +kernel
theorem e102_161 : vm_ent 102 161 = some (.getfield 164, 6, 42, 676) := by decide +kernel
theorem e102_164 : vm_ent 102 164 = some (.iconst 1, 0, 0, 0) := by decide +kernel
theorem e102_165 : vm_ent 102 165 = some (.iadd, 0, 0, 0) := by decide +kernel
theorem e102_166 : vm_ent 102 166 = some (.putfield 164, 6, 42, 676) := by decide +kernel
theorem e102_169 : vm_ent 102 169 = some (.iinc 3 1, 0, 0, 0) := by decide +kernel
theorem e102_172 : vm_ent 102 172 = some (.goto (-89), 83, 0, 0) := by decide +kernel
theorem e102_175 : vm_ent 102 175 = some (.aload_n 0, 0, 0, 0) := by decide +kernel
theorem e102_176 : vm_ent 102 176 = some (.aload_n 0, 0, 0, 0) := by decide +kernel
theorem e102_177 : vm_ent 102 177 = some (.getfield 164, 6, 42, 676) := by decide +kernel
theorem e102_180 : vm_ent 102 180 = some (.putfield 228, 6, 15, 649) := by decide +kernel
theorem e102_183 : vm_ent 102 183 = some (.iload_n 2, 0, 0, 0) := by decide +kernel
theorem e102_184 : vm_ent 102 184 = some (.ifCond .lt 10, 194, 0, 0) := by decide +kernel
theorem e102_187 : vm_ent 102 187 = some (.aload_n 0, 0, 0, 0) := by decide +kernel
theorem e102_188 : vm_ent 102 188 = some (.iload_n 2, 0, 0, 0) := by decide +kernel
theorem e102_189 : vm_ent 102 189 = some (.invokevirtual 207, 99, 4, 797) := by decide +kernel
theorem e102_192 : vm_ent 102 192 = some (.iconst 0, 0, 0, 0) := by decide +kernel
theorem e102_193 : vm_ent 102 193 = some (.ireturn, 0, 0, 0) := by decide +kernel
theorem e102_194 : vm_ent 102 194 = some (.iconst 3, 0, 0, 0) := by decide +kernel
theorem e102_195 : vm_ent 102 195 = some (.istore_n 3, 0, 0, 0) := by decide +kernel
theorem e102_196 : vm_ent 102 196 = some (.iload_n 3, 0, 0, 0) := by decide +kernel
theorem e102_197 : vm_ent 102 197 = some (.iconst 3, 0, 0, 0) := by decide +kernel
theorem e102_198 : vm_ent 102 198 = some (.if_icmp .ne 20, 218, 0, 0) := by decide +kernel
theorem e102_201 : vm_ent 102 201 = some (.aload_n 0, 0, 0, 0) := by decide +kernel
theorem e102_202 : vm_ent 102 202 = some (.getfield 185, 6, 14, 648) := by decide +kernel
theorem e102_205 : vm_ent 102 205 = some (.bipush 12, 0, 0, 0) := by decide +kernel
theorem e102_207 : vm_ent 102 207 = some (.if_icmp .ge 11, 218, 0, 0) := by decide +kernel
theorem e102_210 : vm_ent 102 210 = some (.aload_n 0, 0, 0, 0) := by decide +kernel
theorem e102_211 : vm_ent 102 211 = some (.invokevirtual 231, 100, 4, 801) := by decide +kernel
theorem e102_214 : vm_ent 102 214 = some (.istore_n 3, 0, 0, 0) := by decide +kernel
theorem e102_215 : vm_ent 102 215 = some (.goto (-19), 196, 0, 0) := by decide +kernel
theorem e102_218 : vm_ent 102 218 = some (.aload_n 0, 0, 0, 0) := by decide +kernel
theorem e102_219 : vm_ent 102 219 = some (.aload_n 0, 0, 0, 0) := by decide +kernel
theorem e102_220 : vm_ent 102 220 = some (.getfield 164, 6, 42, 676) := by decide +kernel
theorem e102_223 : vm_ent 102 223 = some (.putfield 228, 6, 15, 649) := by decide +kernel
theorem e102_226 : vm_ent 102 226 = some (.iload_n 3, 0, 0, 0) := by decide +kernel
theorem e102_227 : vm_ent 102 227 = some (.iconst 1, 0, 0, 0) := by decide +kernel
theorem e102_228 : vm_ent 102 228 = some (.if_icmp .ne 50, 278, 0, 0) := by decide +kernel
theorem e102_231 : vm_ent 102 231 = some (.aload_n 0, 0, 0, 0) := by decide +kernel
theorem e102_232 : vm_ent 102 232 = some (.iconst 1, 0, 0, 0) := by decide +kernel
theorem e102_233 : vm_ent 102 233 = some (.putfield 210, 6, 10, 644) := by decide +kernel
theorem e102_236 : vm_ent 102 236 = some (.aload_n 0, 0, 0, 0) := by decide +kernel
theorem e102_237 : vm_ent 102 237 = some (.aload_n 0, 0, 0, 0) := by decide +kernel
theorem e102_238 : vm_ent 102 238 = some (.getfield 149, 6, 40, 674) := by decide +kernel
theorem e102_241 : vm_ent 102 241 = some (.putfield 213, 6, 11, 645) := by decide +kernel
theorem e102_244 : vm_ent 102 244 = some (.iconst 0, 0, 0, 0) := by decide +kernel
theorem e102_245 : vm_ent 102 245 = some (.istore 4, 0, 0, 0) := by decide +kernel
theorem e102_247 : vm_ent 102 247 = some (.iload 4, 0, 0, 0) := by decide +kernel
theorem e102_249 : vm_ent 102 249 = some (.aload_n 0, 0, 0, 0) := by decide +kernel
theorem e102_250 : vm_ent 102 250 = some (.getfield 149, 6, 40, 674) := by decide +kernel
theorem e102_253 : vm_ent 102 253 = some (.if_icmp .ge 25, 278, 0, 0) := by decide +kernel
theorem e102_256 : vm_ent 102 256 = some (.aload_n 0, 0, 0, 0) := by decide +kernel
theorem e102_257 : vm_ent 102 257 = some (.aload_n 0, 0, 0, 0) := by decide +kernel
theorem e102_258 : vm_ent 102 258 = some (.getfield 78, 6, 39, 673) := by decide +kernel
theorem e102_261 : vm_ent 102 261 = some (.iload 4, 0, 0, 0) := by decide +kernel
theorem e102_263 : vm_ent 102 263 = some (.iaload, 0, 0, 0) := by decide +kernel
theorem e102_264 : vm_ent 102 264 = some (.bipush 58, 0, 0, 0) := by decide +kernel
theorem e102_266 : vm_ent 102 266 = some (.iload 4, 0, 0, 0) := by decide +kernel
theorem e102_268 : vm_ent 102 268 = some (.iadd, 0, 0, 0) := by decide +kernel
theorem e102_269 : vm_ent 102 269 = some (.invokevirtual 177, 81, 4, 775) := by decide +kernel
theorem e102_272 : vm_ent 102 272 = some (.iinc 4 1, 0, 0, 0) := by decide +kernel
theorem e102_275 : vm_ent 102 275 = some (.goto (-28), 247, 0, 0) := by decide +kernel
theorem e102_278 : vm_ent 102 278 = some (.iload_n 3, 0, 0, 0) := by decide +kernel
theorem e102_279 : vm_ent 102 279 = some (.iconst 3, 0, 0, 0) := by decide +kernel
theorem e102_280 : vm_ent 102 280 = some (.if_icmp .ne 7, 287, 0, 0) := by decide +kernel
theorem e102_283 : vm_ent 102 283 = some (.iconst 2, 0, 0, 0) := by decide +kernel
theorem e102_284 : vm_ent 102 284 = some (.goto 4, 288, 0, 0) := by decide +kernel
theorem e102_287 : vm_ent 102 287 = some (.iload_n 3, 0, 0, 0) := by decide +kernel
theorem e102_288 : vm_ent 102 288 = some (.ireturn, 0, 0, 0) := by decide +kernel
theorem e104_0 : vm_ent 104 0 = some (.aload_n 0, 0, 0, 0) := by decide +kernel
theorem e104_1 : vm_ent 104 1 = some (.iconst 0, 0, 0, 0) := by decide +kernel
theorem e104_2 : vm_ent 104 2 = some (.putfield 84, 6, 0, 634) := by decide +kernel
theorem e104_5 : vm_ent 104 5 = some (.aload_n 0, 0, 0, 0) := by decide +kernel
theorem e104_6 : vm_ent 104 6 = some (.iload_n 1, 0, 0, 0) := by decide +kernel
theorem e104_7 : vm_ent 104 7 = some (.invokevirtual 235, 103, 4, 873) := by decide +kernel
theorem e104_10 : vm_ent 104 10 = some (.ifCond .ne 10, 20, 0, 0) := by decide +kernel
theorem e104_13 : vm_ent 104 13 = some (.aload_n 0, 0, 0, 0) := by decide +kernel
theorem e104_14 : vm_ent 104 14 = some (.getfield 210, 6, 10, 644) := by decide +kernel
theorem e104_17 : vm_ent 104 17 = some (.ifCond .ne 5, 22, 0, 0) := by decide +kernel
theorem e104_20 : vm_ent 104 20 = some (.iconst (-1), 0, 0, 0) := by decide +kernel
theorem e104_21 : vm_ent 104 21 = some (.ireturn, 0, 0, 0) := by decide +kernel
theorem e104_22 : vm_ent 104 22 = some (.aload_n 0, 0, 0, 0) := by decide +kernel
theorem e104_23 : vm_ent 104 23 = some (.iload_n 1, 0, 0, 0) := by decide +kernel
theorem e104_24 : vm_ent 104 24 = some (.bipush 69, 0, 0, 0) := by decide +kernel
theorem e104_26 : vm_ent 104 26 = some (.invokevirtual 177, 81, 4, 775) := by decide +kernel
theorem e104_29 : vm_ent 104 29 = some (.aload_n 0, 0, 0, 0) := by decide +kernel
theorem e104_30 : vm_ent 104 30 = some (.aload_n 0, 0, 0, 0) := by decide +kernel
theorem e104_31 : vm_ent 104 31 = some (.getfield 213, 6, 11, 645) := by decide +kernel
theorem e104_34 : vm_ent 104 34 = some (.putfield 149, 6, 40, 674) := by decide +kernel
theorem e104_37 : vm_ent 104 37 = some (.iconst 0, 0, 0, 0) := by decide +kernel
theorem e104_38 : vm_ent 104 38 = some (.istore_n 2, 0, 0, 0) := by decide +kernel
theorem e104_39 : vm_ent 104 39 = some (.iload_n 2, 0, 0, 0) := by decide +kernel
theorem e104_40 : vm_ent 104 40 = some (.aload_n 0, 0, 0, 0) := by decide +kernel
theorem e104_41 : vm_ent 104 41 = some (.getfield 213, 6, 11, 645) := by decide +kernel
theorem e104_44 : vm_ent 104 44 = some (.if_icmp .ge 19, 63, 0, 0) := by decide +kernel
theorem e104_47 : vm_ent 104 47 = some (.aload_n 0, 0, 0, 0) := by decide +kernel
theorem e104_48 : vm_ent 104 48 = some (.getfield 78, 6, 39, 673) := by decide +kernel
theorem e104_51 : vm_ent 104 51 = some (.iload_n 2, 0, 0, 0) := by decide +kernel
theorem e104_52 : vm_ent 104 52 = some (.bipush 58, 0, 0, 0) := by decide +kernel
theorem e104_54 : vm_ent 104 54 = some (.iload_n 2, 0, 0, 0) := by decide +kernel
theorem e104_55 : vm_ent 104 55 = some (.iadd, 0, 0, 0) := by decide +kernel
theorem e104_56 : vm_ent 104 56 = some (.iastore, 0, 0, 0) := by decide +kernel
theorem e104_57 : vm_ent 104 57 = some (.iinc 2 1, 0, 0, 0) := by decide +kernel
theorem e104_60 : vm_ent 104 60 = some (.goto (-21), 39, 0, 0) := by decide +kernel
theorem e104_63 : vm_ent 104 63 = some (.aload_n 0, 0, 0, 0) := by decide +kernel
theorem e104_64 : vm_ent 104 64 = some (.iconst 0, 0, 0, 0) := by decide +kernel
theorem e104_65 : vm_ent 104 65 = some (.putfield 140, 6, 27, 661) := by decide +kernel
theorem e104_68 : vm_ent 104 68 = some (.aload_n 0, 0, 0, 0) := by decide +kernel
theorem e104_69 : vm_ent 104 69 = some (.iconst 0, 0, 0, 0) := by decide +kernel
theorem e104_70 : vm_ent 104 70 = some (.putfield 143, 6, 28, 662) := by decide +kernel
theorem e104_73 : vm_ent 104 73 = some (.aload_n 0, 0, 0, 0) := by decide +kernel
theorem e104_74 : vm_ent 104 74 = some (.iconst 1, 0, 0, 0) := by decide +kernel
theorem e104_75 : vm_ent 104 75 = some (.sipush 200, 0, 0, 0) := by decide +kernel
theorem e104_78 : vm_ent 104 78 = some (.invokevirtual 197, 93, 4, 821) := by decide +kernel
theorem e104_81 : vm_ent 104 81 = some (.istore_n 2, 0, 0, 0) := by decide +kernel
theorem e104_82 : vm_ent 104 82 = some (.aload_n 0, 0, 0, 0) := by decide +kernel
theorem e104_83 : vm_ent 104 83 = some (.aload_n 0, 0, 0, 0) := by decide +kernel
theorem e104_84 : vm_ent 104 84 = some (.getfield 146, 6, 41, 675) := by decide +kernel
theorem e104_87 : vm_ent 104 87 = some (.putfield 238, 6, 17, 651) := by decide +kernel
theorem e104_90 : vm_ent 104 90 = some (.aload_n 0, 0, 0, 0) := by decide +kernel
theorem e104_91 : vm_ent 104 91 = some (.iload_n 2, 0, 0, 0) := by decide +kernel
theorem e104_92 : vm_ent 104 92 = some (.putfield 216, 6, 12, 646) := by decide +kernel
theorem e104_95 : vm_ent 104 95 = some (.iload_n 2, 0, 0, 0) := by decide +kernel
theorem e104_96 : vm_ent 104 96 = some (.ifCond .ne 5, 101, 0, 0) := by decide +kernel
theorem e104_99 : vm_ent 104 99 = some (.iconst 2, 0, 0, 0) := by decide +kernel
theorem e104_100 : vm_ent 104 100 = some (.ireturn, 0, 0, 0) := by decide +kernel
theorem e104_101 : vm_ent 104 101 = some (.aload_n 0, 0, 0, 0) := by decide +kernel
theorem e104_102 : vm_ent 104 102 = some (.bipush 69, 0, 0, 0) := by decide +kernel
theorem e104_104 : vm_ent 104 104 = some (.bipush 67, 0, 0, 0) := by decide +kernel
theorem e104_106 : vm_ent 104 106 = some (.invokevirtual 177, 81, 4, 775) := by decide +kernel
theorem e104_109 : vm_ent 104 109 = some (.aload_n 0, 0, 0, 0) := by decide +kernel
theorem e104_110 : vm_ent 104 110 = some (.iconst 1, 0, 0, 0) := by decide +kernel
theorem e104_111 : vm_ent 104 111 = some (.putfield 219, 6, 18, 652) := by decide +kernel
theorem e104_114 : vm_ent 104 114 = some (.aload_n 0, 0, 0, 0) := by decide +kernel
theorem e104_115 : vm_ent 104 115 = some (.aload_n 0, 0, 0, 0) := by decide +kernel
theorem e104_116 : vm_ent 104 116 = some (.getfield 140, 6, 27, 661) := by decide +kernel
theorem e104_119 : vm_ent 104 119 = some (.putfield 241, 6, 19, 653) := by decide +kernel
theorem e104_122 : vm_ent 104 122 = some (.aload_n 0, 0, 0, 0) := by decide +kernel
theorem e104_123 : vm_ent 104 123 = some (.aload_n 0, 0, 0, 0) := by decide +kernel
theorem e104_124 : vm_ent 104 124 = some (.getfield 143, 6, 28, 662) := by decide +kernel
theorem e104_127 : vm_ent 104 127 = some (.putfield 244, 6, 25, 659) := by decide +kernel
theorem e104_130 : vm_ent 104 130 = some (.iconst 0, 0, 0, 0) := by decide +kernel
theorem e104_131 : vm_ent 104 131 = some (.istore_n 3, 0, 0, 0) := by decide +kernel
theorem e104_132 : vm_ent 104 132 = some (.iload_n 3, 0, 0, 0) := by decide +kernel
theorem e104_133 : vm_ent 104 133 = some (.bipush 8, 0, 0, 0) := by decide +kernel
theorem e104_135 : vm_ent 104 135 = some (.if_icmp .ge 16, 151, 0, 0) := by decide +kernel
theorem e104_138 : vm_ent 104 138 = some (.aload_n 0, 0, 0, 0) := by decide +kernel
theorem e104_139 : vm_ent 104 139 = some (.getfield 48, 6, 26, 660) := by decide +kernel
theorem e104_142 : vm_ent 104 142 = some (.iload_n 3, 0, 0, 0) := by decide +kernel
theorem e104_143 : vm_ent 104 143 = some (.iconst 0, 0, 0, 0) := by decide +kernel
theorem e104_144 : vm_ent 104 144 = some (.iastore, 0, 0, 0) := by decide +kernel
theorem e104_145 : vm_ent 104 145 = some (.iinc 3 1, 0, 0, 0) := by decide +kernel
theorem e104_148 : vm_ent 104 148 = some (.goto (-16), 132, 0, 0) := by decide +kernel
theorem e104_151 : vm_ent 104 151 = some (.iconst 0, 0, 0, 0) := by decide +kernel
theorem e104_152 : vm_ent 104 152 = some (.istore_n 3, 0, 0, 0) := by decide +kernel
theorem e104_153 : vm_ent 104 153 = some (.iload_n 3, 0, 0, 0) := by decide +kernel
theorem e104_154 : vm_ent 104 154 = some (.aload_n 0, 0, 0, 0) := by decide +kernel
theorem e104_155 : vm_ent 104 155 = some (.getfield 241, 6, 19, 653) := by decide +kernel
theorem e104_158 : vm_ent 104 158 = some (.if_icmp .ge 60, 218, 0, 0) := by decide +kernel
theorem e104_161 : vm_ent 104 161 = some (.aload_n 0, 0, 0, 0) := by decide +kernel
theorem e104_162 : vm_ent 104 162 = some (.getfield 33, 6, 20, 654) := by decide +kernel
theorem e104_165 : vm_ent 104 165 = some (.iload_n 3, 0, 0, 0) := by decide +kernel
theorem e104_166 : vm_ent 104 166 = some (.aload_n 0, 0, 0, 0) := by decide +kernel
theorem e104_167 : vm_ent 104 167 = some (.getfield 51, 6, 29, 663) := by decide +kernel
theorem e104_170 : vm_ent 104 170 = some (.iload_n 3, 0, 0, 0) := by decide +kernel
theorem e104_171 : vm_ent 104 171 = some (.iaload, 0, 0, 0) := by decide +kernel
theorem e104_172 : vm_ent 104 172 = some (.iastore, 0, 0, 0) := by decide +kernel
theorem e104_173 : vm_ent 104 173 = some (.aload_n 0, 0, 0, 0) := by decide +kernel
theorem e104_174 : vm_ent 104 174 = some (.getfield 36, 6, 21, 655) := by decide +kernel
theorem e104_177 : vm_ent 104 177 = some (.iload_n 3, 0, 0, 0) := by decide +kernel
theorem e104_178 : vm_ent 104 178 = some (.aload_n 0, 0, 0, 0) := by decide +kernel
theorem e104_179 : vm_ent 104 179 = some (.getfield 54, 6, 30, 664) := by decide +kernel
theorem e104_182 : vm_ent 104 182 = some (.iload_n 3, 0, 0, 0) := by decide +kernel
theorem e104_183 : vm_ent 104 183 = some (.iaload, 0, 0, 0) := by decide +kernel
theorem e104_184 : vm_ent 104 184 = some (.iastore, 0, 0, 0) := by decide +kernel
theorem e104_185 : vm_ent 104 185 = some (.aload_n 0, 0, 0, 0) := by decide +kernel
theorem e104_186 : vm_ent 104 186 = some (.getfield 39, 6, 22, 656) := by decide +kernel
theorem e104_189 : vm_ent 104 189 = some (.iload_n 3, 0, 0, 0) := by decide +kernel
theorem e104_190 : vm_ent 104 190 = some (.aload_n 0, 0, 0, 0) := by decide +kernel
theorem e104_191 : vm_ent 104 191 = some (.getfield 57, 6, 31, 665) := by decide +kernel
theorem e104_194 : vm_ent 104 194 = some (.iload_n 3, 0, 0, 0) := by decide +kernel
theorem e104_195 : vm_ent 104 195 = some (.iaload, 0, 0, 0) := by decide +kernel
theorem e104_196 : vm_ent 104 196 = some (.iastore, 0, 0, 0) := by decide +kernel
theorem e104_197 : vm_ent 104 197 = some (.aload_n 0, 0, 0, 0) := by decide +kernel
theorem e104_198 : vm_ent 104 198 = some (.getfield 48, 6, 26, 660) := by decide +kernel
theorem e104_201 : vm_ent 104 201 = some (.aload_n 0, 0, 0, 0) := by decide +kernel
theorem e104_202 : vm_ent 104 202 = some (.getfield 51, 6, 29, 663) := by decide +kernel
theorem e104_205 : vm_ent 104 205 = some (.iload_n 3, 0, 0, 0) := by decide +kernel
theorem e104_206 : vm_ent 104 206 = some (.iaload, 0, 0, 0) := by decide +kernel
theorem e104_207 : vm_ent 104 207 = some (.dup2, 0, 0, 0) := by decide +kernel
theorem e104_208 : vm_ent 104 208 = some (.iaload, 0, 0, 0) := by decide +kernel
theorem e104_209 : vm_ent 104 209 = some (.iconst 1, 0, 0, 0) := by decide +kernel
theorem e104_210 : vm_ent 104 210 = some (.iadd, 0, 0, 0) := by decide +kernel
theorem e104_211 : vm_ent 104 211 = some (.iastore, 0, 0, 0) := by decide +kernel
theorem e104_212 : vm_ent 104 212 = some (.iinc 3 1, 0, 0, 0) := by decide +kernel
theorem e104_215 : vm_ent 104 215 = some (.goto (-62), 153, 0, 0) := by decide +kernel
theorem e104_218 : vm_ent 104 218 = some (.iconst 0, 0, 0, 0) := by decide +kernel
theorem e104_219 : vm_ent 104 219 = some (.istore_n 3, 0, 0, 0) := by decide +kernel
theorem e104_220 : vm_ent 104 220 = some (.iload_n 3, 0, 0, 0) := by decide +kernel
theorem e104_221 : vm_ent 104 221 = some (.aload_n 0, 0, 0, 0) := by decide +kernel
theorem e104_222 : vm_ent 104 222 = some (.getfield 244, 6, 25, 659) := by decide +kernel
theorem e104_225 : vm_ent 104 225 = some (.if_icmp .ge 33, 258, 0, 0) := by decide +kernel
theorem e104_228 : vm_ent 104 228 = some (.aload_n 0, 0, 0, 0) := by decide +kernel
theorem e104_229 : vm_ent 104 229 = some (.getfield 42, 6, 23, 657) := by decide +kernel
theorem e104_232 : vm_ent 104 232 = some (.iload_n 3, 0, 0, 0) := by decide +kernel
theorem e104_233 : vm_ent 104 233 = some (.aload_n 0, 0, 0, 0) := by decide +kernel
theorem e104_234 : vm_ent 104 234 = some (.getfield 60, 6, 32, 666) := by decide +kernel
theorem e104_237 : vm_ent 104 237 = some (.iload_n 3, 0, 0, 0) := by decide +kernel
theorem e104_238 : vm_ent 104 238 = some (.laload, 0, 0, 0) := by decide +kernel
theorem e104_239 : vm_ent 104 239 = some (.lastore, 0, 0, 0) := by decide +kernel
theorem e104_240 : vm_ent 104 240 = some (.aload_n 0, 0, 0, 0) := by decide +kernel
theorem e104_241 : vm_ent 104 241 = some (.getfield 45, 6, 24, 658) := by decide +kernel
theorem e104_244 : vm_ent 104 244 = some (.iload_n 3, 0, 0, 0) := by decide +kernel
theorem e104_245 : vm_ent 104 245 = some (.aload_n 0, 0, 0, 0) := by decide +kernel
theorem e104_246 : vm_ent 104 246 = some (.getfield 63, 6, 33, 667) := by decide +kernel
theorem e104_249 : vm_ent 104 249 = some (.iload_n 3, 0, 0, 0) := by decide +kernel
theorem e104_250 : vm_ent 104 250 = some (.laload, 0, 0, 0) := by decide +kernel
theorem e104_251 : vm_ent 104 251 = some (.lastore, 0, 0, 0) := by decide +kernel
theorem e104_252 : vm_ent 104 252 = some (.iinc 3 1, 0, 0, 0) := by decide +kernel
theorem e104_255 : vm_ent 104 255 = some (.goto (-35), 220, 0, 0) := by decide +kernel
theorem e104_258 : vm_ent 104 258 = some (.aload_n 0, 0, 0, 0) := by decide +kernel
theorem e104_259 : vm_ent 104 259 = some (.getfield 20, 6, 6, 640) := by decide +kernel
theorem e104_262 : vm_ent 104 262 = some (.bipush 67, 0, 0, 0) := by decide +kernel
theorem e104_264 : vm_ent 104 264 = some (.iaload, 0, 0, 0) := by decide +kernel
theorem e104_265 : vm_ent 104 265 = some (.ifCond .ne 7, 272, 0, 0) := by decide +kernel
theorem e104_268 : vm_ent 104 268 = some (.iconst 1, 0, 0, 0) := by decide +kernel
theorem e104_269 : vm_ent 104 269 = some (.goto 4, 273, 0, 0) := by decide +kernel
theorem e104_272 : vm_ent 104 272 = some (.iconst 0, 0, 0, 0) := by decide +kernel
theorem e104_273 : vm_ent 104 273 = some (.ireturn, 0, 0, 0) := by decide +kernel
