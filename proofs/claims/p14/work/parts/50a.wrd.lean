/-! Words of keys; the order changes; powers and values on both sides. -/
section KW
variable {V V1 : Nat → Int} {nv : Int} {N : Nat} {l l1 l2 : Po}
theorem sd_b {i : Nat} (hN : N < 2 ^ 64) (hd : ∀ p, p < 8 → dgt N p ≤ 15) (h : N.testBit i = true) : i < 64 ∧ i % 8 < 4 := by
  have h1 : i < 64 := by
    by_cases q : i < 64
    · exact q
    · rw [Nat.testBit_lt_two_pow (Nat.lt_of_lt_of_le hN (Nat.pow_le_pow_right (by decide) (by omega)))] at h
      cases h
  refine ⟨h1, ?_⟩
  by_cases q : i % 8 < 4
  · exact q
  · have h2 := hd (i / 8) (by omega)
    have h3 : (dgt N (i / 8)).testBit (i % 8) = true := by
      rw [dg_bit, show 8 * (i / 8) + i % 8 = i by omega, h, Bool.and_true, decide_eq_true_eq]
      omega
    rw [Nat.testBit_lt_two_pow (Nat.lt_of_lt_of_le (show dgt N (i / 8) < 2 ^ 4 by omega) (Nat.pow_le_pow_right (by decide) (by omega)))] at h3
    cases h3
theorem on_tb {i : Nat} (hN : N < 2 ^ 64) : (Int64.ofNat N).toBitVec.getLsbD i = N.testBit i := by rw [BitVec.getLsbD, on_bv hN]
theorem n64 (h0 : 0 ≤ nv ∧ nv ≤ 8) (hN : N < 256 ^ nv.toNat) : N < 2 ^ 64 := Nat.lt_of_lt_of_le hN (by rw [p256]; exact Nat.pow_le_pow_right (by decide) (by omega))
/-- a key of small digits comes from a word -/
theorem wd_ex (hO : onto V nv) (h0 : 0 ≤ nv ∧ nv ≤ 8) (hN : N < 256 ^ nv.toNat) (hd : ∀ p, p < 8 → dgt N p ≤ 15) : val nv.toNat (pof V (Int64.ofNat N) nv.toNat) ∧ kof V (pof V (Int64.ofNat N) nv.toNat) nv.toNat = Int64.ofNat N := by
  have h64 := n64 h0 hN
  have hp := fun i hi => bt_pof (κ := Int64.ofNat N) hO.1 nv.toNat (by omega) i hi
  constructor
  · intro i hi
    by_cases q : i < 32
    · cases e : (pof V (Int64.ofNat N) nv.toNat).toBitVec.getLsbD i with
      | false => rfl
      | true =>
        obtain ⟨p, q1, q2, q3, q4⟩ := (hp i q).mp e
        rw [on_tb h64] at q4
        have q5 := (sd_b h64 hd q4).2
        have q6 := (on_lt hO h0 q1).1
        omega
    · exact BitVec.getLsbD_of_ge _ _ (by omega)
  · apply Int64.toBitVec_inj.mp
    apply BitVec.eq_of_getLsbD_eq
    intro i hi
    rw [bt_kof hO.1 nv.toNat (by omega), on_tb h64, Bool.eq_iff_iff]
    simp only [Bool.and_eq_true, decide_eq_true_eq]
    constructor
    · rintro ⟨⟨a1, a2⟩, a3⟩
      have hv := (on_lt hO h0 (p := i / 8) (by omega)).1
      obtain ⟨p, q1, q2, q3, q4⟩ := (hp _ (by omega)).mp a3
      rw [on_tb h64] at q4
      have q5 := (sd_b h64 hd q4).2
      have q6 : i / 8 = p := (on_lt hO h0 (p := i / 8) (by omega)).2 p q1 (by omega)
      rw [← q6] at q4 q5 q2 q3
      rw [show 8 * (i / 8) + (4 * (V (i / 8)).toNat + i % 8 - 4 * (V (i / 8)).toNat) = i by omega] at q4
      exact q4
    · intro a
      have a2 := sd_b h64 hd a
      have a1 : i < 8 * nv.toNat := by
        by_cases q : i < 8 * nv.toNat
        · exact q
        · rw [Nat.testBit_lt_two_pow (Nat.lt_of_lt_of_le hN (by rw [p256]; exact Nat.pow_le_pow_right (by decide) (by omega)))] at a
          cases a
      refine ⟨⟨a1, a2.2⟩, ?_⟩
      have hv := (on_lt hO h0 (p := i / 8) (by omega)).1
      refine (hp _ (by omega)).mpr ⟨i / 8, by omega, by omega, by omega, ?_⟩
      rw [on_tb h64, show 8 * (i / 8) + (4 * (V (i / 8)).toNat + i % 8 - 4 * (V (i / 8)).toNat) = i by omega]
      exact a
theorem kw (hO : onto V nv) (h0 : 0 ≤ nv ∧ nv ≤ 8) (hN : N < 256 ^ nv.toNat) (hd : ∀ p, p < 8 → dgt N p ≤ 15) : Int64.ofNat (tr (vO V) nv.toNat N) = kof idv (pof V (Int64.ofNat N) nv.toNat) 8 := by
  obtain ⟨h1, h2⟩ := wd_ex hO h0 hN hd
  obtain ⟨M, m1, m2, m3, m4⟩ := br hO h0 h1
  have e : M = N := on_inj (n64 h0 m1.1) (n64 h0 hN) (m3.trans h2)
  rw [← m4, e]
theorem pw_br (hO : onto V nv) (h0 : 0 ≤ nv ∧ nv ≤ 8) (hN : N < 256 ^ nv.toNat) (hd : ∀ p, p < 8 → dgt N p ≤ 15) : pof idv (Int64.ofNat (tr (vO V) nv.toNat N)) 8 = pof V (Int64.ofNat N) nv.toNat := by rw [kw hO h0 hN hd, rw_id]
/-- the same sum in another order -/
def mvR (V V1 : Nat → Int) (nv : Int) (l l1 : Po) : Prop := gk nv.toNat l1 ∧ (l1.map (enR (vO V1) nv.toNat)).Perm (l.map (enR (vO V) nv.toNat))
theorem mvR_u (hO1 : onto V1 nv) (h0 : 0 ≤ nv ∧ nv ≤ 8) (h1 : mvR V V1 nv l l1) (h2 : mvR V V1 nv l l2) : l1 = l2 := by
  have hpm := pm_on hO1 h0
  have hp := h1.2.trans h2.2.symm
  have key : ∀ a b : Po, gk nv.toNat a → gk nv.toNat b → (a.map (enR (vO V1) nv.toNat)).Perm (b.map (enR (vO V1) nv.toNat)) → ∀ x, x ∈ a → x ∈ b := fun a b ha hb hp x hx => by
    obtain ⟨y, hy, e⟩ := List.mem_map.mp (hp.subset (List.mem_map.mpr ⟨x, hx, rfl⟩))
    have e1 : y.1 = x.1 := tr_inj hpm (hb.2.2 y hy) (ha.2.2 x hx) (on_inj tr_64 tr_64 (congrArg Prod.fst e))
    have e2 : (enR (vO V1) nv.toNat y).2 = (enR (vO V1) nv.toNat x).2 := congrArg Prod.snd e
    rw [← show y = x from Prod.ext e1 e2]; exact hy
  exact nrm_eq l1 l2 h1.1.1 h2.1.1 fun x => ⟨key l1 l2 h1.1 h2.1 hp x, key l2 l1 h2.1 h1.1 hp.symm x⟩
theorem gk_nil {n : Nat} : gk n [] := ⟨⟨List.Pairwise.nil, fun x hx => absurd hx List.not_mem_nil⟩, ⟨Nat.zero_le _, fun x hx => absurd hx List.not_mem_nil⟩, fun x hx => absurd hx List.not_mem_nil⟩
theorem mvR_nil : mvR V V1 nv [] [] := ⟨gk_nil, List.Perm.nil⟩
theorem mvR_n0 (h : mvR V V1 nv [] l1) : l1 = [] := by
  have h1 := h.2.length_eq
  rw [List.length_map] at h1
  exact List.eq_nil_of_length_eq_zero h1
theorem mvR_0 (h : mvR V V1 nv l []) : l = [] := by
  have h1 := h.2.length_eq
  rw [List.length_map, List.length_map] at h1
  exact List.eq_nil_of_length_eq_zero h1.symm
theorem pr5_l {K F : Nat → Int64} (hO : onto V nv) (h0 : 0 ≤ nv ∧ nv ≤ 8) (hg : gk nv.toNat l) (hL : ls (fun t => (K t, F t)) l.length = l.map en) : pr5 V nv (l.length : Int) K F (l.length : Int) (l.map (enR (vO V) nv.toNat)) := by
  have hat : ∀ i, (hi : i < l.length) → K i = Int64.ofNat (l[i]).1 ∧ F i = (l[i]).2 := fun i hi => by
    obtain ⟨x, h8, h9, _⟩ := ls_at hL hi
    rw [List.drop_eq_getElem_cons hi] at h8
    have h6 : l[i] = x := (List.cons.inj h8).1
    have h7 : (K i, F i) = en l[i] := by rw [h6]; exact h9
    exact ⟨congrArg Prod.fst h7, congrArg Prod.snd h7⟩
  have hw : ∀ x, x ∈ l → val nv.toNat (pof V (Int64.ofNat x.1) nv.toNat) ∧ kof V (pof V (Int64.ofNat x.1) nv.toNat) nv.toNat = Int64.ofNat x.1 := fun x hx => wd_ex hO h0 (gk_dg hg hx).1 (gk_dg hg hx).2
  have h63 : ∀ x, x ∈ l → x.1 < 2 ^ 63 := fun x hx => by
    obtain ⟨M, m1, m2, m3, _⟩ := br hO h0 (hw x hx).1
    have e : M = x.1 := on_inj (n64 h0 m1.1) (n64 h0 (gk_dg hg hx).1) (m3.trans (hw x hx).2)
    rw [← e]; exact m1.2
  refine ⟨rfl, fun t ht => ?_, fun i j hij hj => ?_, fun x hx => ?_, ?_⟩
  · have ht : t < l.length := by omega
    exact ⟨_, (hw _ (List.getElem_mem ht)).1, by rw [(hw _ (List.getElem_mem ht)).2]; exact (hat t ht).1⟩
  · have hj : j < l.length := by omega
    have hi : i < l.length := by omega
    rw [(hat i hi).1, (hat j hj).1, ti63 (h63 _ (List.getElem_mem hi)), ti63 (h63 _ (List.getElem_mem hj))]
    have h9 := List.pairwise_iff_getElem.mp hg.1.1 i j hi hj hij
    omega
  · obtain ⟨y, hy, rfl⟩ := List.mem_map.mp hx
    exact ⟨_, (hw y hy).1, kw hO h0 (gk_dg hg hy).1 (gk_dg hg hy).2⟩
  · rw [Int.toNat_natCast, hL, List.map_map, List.map_map]
    have e : l.map (wrd V nv ∘ en) = l.map (rwd ∘ enR (vO V) nv.toNat) := List.map_congr_left fun x hx => by
      show (pof V (Int64.ofNat x.1) nv.toNat, x.2) = (pof idv (Int64.ofNat (tr (vO V) nv.toNat x.1)) 8, x.2)
      rw [pw_br hO h0 (gk_dg hg hx).1 (gk_dg hg hx).2]
    rw [e]
theorem wr_e {m : Po} (hO : onto V nv) (h0 : 0 ≤ nv ∧ nv ≤ 8) (hg : gk nv.toNat m) : (m.map (wrd V nv ∘ en)).map (fun x => (kof idv x.1 8, x.2)) = m.map (enR (vO V) nv.toNat) := by
  rw [List.map_map]
  exact List.map_congr_left fun x hx => by
    show (kof idv (pof V (Int64.ofNat x.1) nv.toNat) 8, x.2) = (Int64.ofNat (tr (vO V) nv.toNat x.1), x.2)
    rw [kw hO h0 (gk_dg hg hx).1 (gk_dg hg hx).2]
/-- the class lays a sum anew -/
theorem mv_c {K F K1 F1 : Nat → Int64} {n : Int} (hO : onto V nv) (hO1 : onto V1 nv) (h0 : 0 ≤ nv ∧ nv ≤ 8) (hn : n = (l.length : Int)) (hL : ls (fun t => (K t, F t)) l.length = l.map en) (hg : gk nv.toNat l) (hp : (ls (fun t => (K1 t, F1 t)) n.toNat).Perm (ls (fun t => (kof V1 (pof V (K t) nv.toNat) nv.toNat, F t)) n.toNat)) (hs : srt K1 n) : ∃ l1, (n = (l1.length : Int) ∧ ls (fun t => (K1 t, F1 t)) l1.length = l1.map en) ∧ mvR V V1 nv l l1 := by
  have h1 := pr5_l hO h0 hg hL
  rw [← hn] at h1
  have h2 := pr5_mv h1 hO hO1 h0 (by omega) hp hs (List.Perm.refl _)
  have hgl : ∀ t : Nat, (t : Int) < n → gl (F1 t) := fun t ht => by
    have h3 : (K1 t, F1 t) ∈ ls (fun t => (kof V1 (pof V (K t) nv.toNat) nv.toNat, F t)) n.toNat := hp.subset ((ls_mem _).mpr ⟨t, by omega, rfl⟩)
    obtain ⟨u, hu, e⟩ := (ls_mem _).mp h3
    have e2 : F u = F1 t := congrArg Prod.snd e
    have h4 : (K u, F u) ∈ l.map en := by rw [← hL]; exact (ls_mem _).mpr ⟨u, by omega, rfl⟩
    obtain ⟨x, hx, e3⟩ := List.mem_map.mp h4
    have e3 : x.2 = F u := congrArg Prod.snd e3
    rw [← e2, ← e3]
    have q1 := hg.1.2 x hx
    have q2 := (hg.2.1.2 x hx).1
    exact ⟨fun z => q1 (Int64.toInt_inj.mp (by rw [z]; rfl)), q2.1, q2.2⟩
  have h60 := hg.2.1.1
  obtain ⟨l1, e1, e2, hk, _⟩ := L5c hO1 h0 (n := n) (K := K1) (F := F1) (by omega) h2.2.1 h2.2.2.1 hgl
  refine ⟨l1, ⟨e1, e2⟩, hk, ?_⟩
  have h5 := h2.2.2.2.2
  rw [e1, Int.toNat_natCast, e2, List.map_map] at h5
  have h6 := h5.map (fun x : Int32 × Int64 => (kof idv x.1 8, x.2))
  rw [wr_e hO1 h0 hk] at h6
  refine h6.trans ?_
  have e9 : ((l.map (enR (vO V) nv.toNat)).map rwd).map (fun x : Int32 × Int64 => (kof idv x.1 8, x.2)) = l.map (enR (vO V) nv.toNat) := by
    rw [List.map_map, List.map_map]
    exact List.map_congr_left fun x hx => by
      show (kof idv (pof idv (Int64.ofNat (tr (vO V) nv.toNat x.1)) 8) 8, x.2) = (Int64.ofNat (tr (vO V) nv.toNat x.1), x.2)
      rw [kw hO h0 (gk_dg hg hx).1 (gk_dg hg hx).2, rw_id]
  rw [e9]
/-- the reference sorts it -/
theorem mv_r {i : Nat} {sc1 : Nat → Int} {ai ai1 : Nat → Nat → Int} {al al1 : Nat → Nat → Int64} (hO : onto V nv) (hO1 : onto V1 nv) (h0 : 0 ≤ nv ∧ nv ≤ 8) (hg : gk nv.toNat l) (hq : qL (vO V) nv.toNat ai al i l) (e242 : ai1 242 = ai 242) (hs : sorS sc1 ai1 al al1 i) (e1 : sc1 1 = nv) (e2 : ai1 240 = V1) : ∃ l1, qL (vO V1) nv.toNat ai1 al1 i l1 ∧ mvR V V1 nv l l1 := by
  have hpm := pm_on hO h0
  have hpm1 := pm_on hO1 h0
  have hwo : ∀ x, x ∈ l.map (enR (vO V) nv.toNat) → ∃ w, val nv.toNat w ∧ x.1 = kof idv w 8 := fun x hx => by
    obtain ⟨y, hy, rfl⟩ := List.mem_map.mp hx
    exact ⟨_, (wd_ex hO h0 (gk_dg hg hy).1 (gk_dg hg hy).2).1, kw hO h0 (gk_dg hg hy).1 (gk_dg hg hy).2⟩
  obtain ⟨m, em, hm⟩ := L4 hO1 h0 _ hwo
  have e3 : vR ai1 = vO V1 := by
    funext p
    show (ai1 240 p).toNat = (V1 p).toNat
    rw [e2]
  have el : l.length = m.length := by
    have := congrArg List.length em
    rw [List.length_map, List.length_map] at this
    exact this
  have hqm : qL (vO V1) nv.toNat ai1 al i m := ⟨by rw [e242, ← el]; exact hq.1, by rw [← em, ← el]; exact hq.2⟩
  obtain ⟨l1, p1, p2, p3⟩ := hs nv.toNat (by omega) (by rw [e3]; exact hpm1) m (by rw [e3]; exact hqm) hm
  rw [e3] at p3
  have hP : (l1.map (enR (vO V1) nv.toNat)).Perm (l.map (enR (vO V) nv.toNat)) := by
    rw [em]
    exact p1.map _
  have hx : ∀ y, y ∈ l1 → ∃ x, x ∈ l ∧ tr (vO V) nv.toNat x.1 = tr (vO V1) nv.toNat y.1 ∧ x.2 = y.2 := fun y hy => by
    obtain ⟨x, hx, e⟩ := List.mem_map.mp (hP.subset (List.mem_map.mpr ⟨y, hy, rfl⟩))
    have e2 : (enR (vO V) nv.toNat x).2 = (enR (vO V1) nv.toNat y).2 := congrArg Prod.snd e
    exact ⟨x, hx, on_inj tr_64 tr_64 (congrArg Prod.fst e), e2⟩
  have hb : ∀ y, y ∈ l1 → y.1 < 256 ^ nv.toNat := fun y hy => (hm y (p1.subset hy)).1
  have nd : ((l1.map (enR (vO V1) nv.toNat)).map Prod.fst).Nodup := by
    refine (hP.map Prod.fst).nodup_iff.mpr ?_
    rw [List.map_map]
    show (l.map _).Pairwise (· ≠ ·)
    rw [List.pairwise_map]
    refine List.Pairwise.imp_of_mem ?_ hg.1.1
    intro x y hx hy hlt e
    have := tr_inj hpm (hg.2.2 x hx) (hg.2.2 y hy) (on_inj tr_64 tr_64 e)
    omega
  refine ⟨l1, p3, ⟨⟨?_, fun y hy => ?_⟩, ⟨by rw [p1.length_eq, ← el]; exact hg.2.1.1, fun y hy => ⟨?_, ?_⟩⟩, hb⟩, hP⟩
  · rw [List.map_map] at nd
    have nd : (l1.map (Prod.fst ∘ enR (vO V1) nv.toNat)).Pairwise (· ≠ ·) := nd
    rw [List.pairwise_map] at nd
    refine (p2.and nd).imp ?_
    intro x y hxy
    have h2 : x.1 ≠ y.1 := fun z => hxy.2 (by show Int64.ofNat (tr (vO V1) nv.toNat x.1) = Int64.ofNat (tr (vO V1) nv.toNat y.1); rw [z])
    have h1 := hxy.1
    omega
  · obtain ⟨x, x1, _, x3⟩ := hx y hy
    rw [← x3]; exact hg.1.2 x x1
  · obtain ⟨x, x1, _, x3⟩ := hx y hy
    rw [← x3]; exact (hg.2.1.2 x x1).1
  · obtain ⟨x, x1, x2, _⟩ := hx y hy
    refine (tr_sm hpm1 (hb y hy)).mp ?_
    rw [← x2]
    exact (tr_sm hpm (hg.2.2 x x1)).mpr (gk_dg hg x1).2
end KW
/-! Products by place and by variable. -/
def prG (a : Nat → Int64) (e : Nat → Nat) : Nat → Int64
  | 0 => Int64.ofNat 1
  | v + 1 => pwr (prG a e v) (a v) (e v)
theorem pwr_mu {x y z : Int64} : ∀ k : Nat, pwr (x * z) y k = pwr x y k * z := by
  intro k
  induction k with
  | zero => rfl
  | succ k ih =>
    show pwr (x * z) y k * y = pwr x y k * y * z
    rw [ih, Int64.mul_assoc, Int64.mul_assoc, Int64.mul_comm z y]
theorem pwr_1 {x y : Int64} {k : Nat} : pwr x y k = x * pwr (Int64.ofNat 1) y k := by
  have h := pwr_mu (x := Int64.ofNat 1) (y := y) (z := x) k
  rw [show Int64.ofNat 1 * x = x from Int64.one_mul x] at h
  rw [h, Int64.mul_comm]
theorem prG_cg {a b : Nat → Int64} {e f : Nat → Nat} : ∀ n : Nat, (∀ v, v < n → a v = b v ∧ e v = f v) → prG a e n = prG b f n := by
  intro n
  induction n with
  | zero => intro _; rfl
  | succ n ih =>
    intro h
    show pwr (prG a e n) (a n) (e n) = pwr (prG b f n) (b n) (f n)
    rw [ih fun v hv => h v (by omega), (h n (by omega)).1, (h n (by omega)).2]
theorem prG_0 {a : Nat → Int64} : ∀ n : Nat, prG a (fun _ => 0) n = Int64.ofNat 1 := by
  intro n
  induction n with
  | zero => rfl
  | succ n ih => exact ih
theorem prG_up {a : Nat → Int64} {e : Nat → Nat} {j k : Nat} (h0 : e j = 0) : ∀ n : Nat, prG a (fun v => if j = v then k else e v) n = if j < n then prG a e n * pwr (Int64.ofNat 1) (a j) k else prG a e n := by
  intro n
  induction n with
  | zero => rfl
  | succ n ih =>
    show pwr (prG a (fun v => if j = v then k else e v) n) (a n) (if j = n then k else e n) = if j < n + 1 then pwr (prG a e n) (a n) (e n) * pwr (Int64.ofNat 1) (a j) k else pwr (prG a e n) (a n) (e n)
    rw [ih]
    by_cases q : j = n
    · subst q
      rw [if_neg (by omega), if_pos rfl, if_pos (by omega), h0]
      exact pwr_1
    · rw [if_neg q]
      by_cases q2 : j < n
      · rw [if_pos q2, if_pos (by omega), pwr_mu]
      · rw [if_neg q2, if_neg (by omega)]
def exV (V : Nat → Nat) (d : Nat → Nat) (n v : Nat) : Nat := match plv V v n with
  | some p => d p
  | none => 0
theorem exV_s {V d : Nat → Nat} {n v : Nat} : exV V d (n + 1) v = if V n = v then d n else exV V d n v := by
  unfold exV
  show (match (if V n = v then some n else plv V v n) with
    | some p => d p
    | none => 0) = _
  by_cases q : V n = v
  · rw [if_pos q, if_pos q]
  · rw [if_neg q, if_neg q]
theorem prG_V {pt : Nat → Int64} {V d : Nat → Nat} : ∀ n : Nat, pmV V n → prG (fun p => pt (V p)) d n = prG pt (exV V d n) 8 := by
  intro n
  induction n with
  | zero => intro _; exact (prG_0 8).symm
  | succ n ih =>
    intro h
    have h1 : pmV V n := ⟨by have := h.1; omega, fun p hp => h.2.1 p (by omega), fun p q hp hq e => h.2.2 p q (by omega) (by omega) e⟩
    have h2 : exV V d n (V n) = 0 := by
      unfold exV
      cases e : plv V (V n) n with
      | none => rfl
      | some p =>
        obtain ⟨q1, q2⟩ := plv_some _ e
        have := h.2.2 p n (by omega) (by omega) q2
        omega
    have h3 : prG pt (exV V d (n + 1)) 8 = prG pt (fun v => if V n = v then d n else exV V d n v) 8 := prG_cg 8 fun v _ => ⟨rfl, exV_s⟩
    rw [h3, prG_up h2 8, if_pos (h.2.1 n (by omega))]
    show pwr (prG (fun p => pt (V p)) d n) (pt (V n)) (d n) = _
    rw [ih h1]
    exact pwr_1
section VB
variable {V : Nat → Int} {nv : Int} {N : Nat} {pt : Nat → Int64}
theorem vaPG {key : Int64} : ∀ n : Nat, vaF pt key n = prG pt (fun v => (pw key (v : Int)).toNat) n := by
  intro n
  induction n with
  | zero => rfl
  | succ n ih =>
    show pwr (vaF pt key n) (pt n) _ = pwr (prG pt _ n) (pt n) _
    rw [ih]
theorem vkPG {key : Int64} : ∀ n : Nat, vkF pt V key n = prG (fun p => pt (V p).toNat) (fun v => (pw key (v : Int)).toNat) n := by
  intro n
  induction n with
  | zero => rfl
  | succ n ih =>
    show pwr (vkF pt V key n) _ _ = pwr (prG _ _ n) _ _
    rw [ih]
theorem vk_br (hO : onto V nv) (h0 : 0 ≤ nv ∧ nv ≤ 8) (hN : N < 256 ^ nv.toNat) : vaF pt (Int64.ofNat (tr (vO V) nv.toNat N)) 8 = vkF pt V (Int64.ofNat N) nv.toNat := by
  have e1 : vkF pt V (Int64.ofNat N) nv.toNat = prG (fun p => pt (vO V p)) (dgt N) nv.toNat := by
    rw [vkPG]
    refine prG_cg _ fun v hv => ⟨rfl, ?_⟩
    rw [pw_dgt (n64 h0 hN) (by omega), Int.toNat_natCast, Int.toNat_natCast]
  rw [e1, prG_V nv.toNat (pm_on hO h0), vaPG]
  refine prG_cg 8 fun v hv => ⟨rfl, ?_⟩
  rw [pw_dgt tr_64 (by omega), Int.toNat_natCast, Int.toNat_natCast, dgt_tr hv]
  rfl
end VB
