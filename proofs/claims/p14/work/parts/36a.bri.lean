/-! Keys as words and keys as numbers; the same sums as one list. -/
theorem pig : ∀ (n : Nat) (f : Nat → Nat), (∀ v, v < n → ∃ j, j < n ∧ f j = v) → ∀ p, p < n → f p < n ∧ ∀ q, q < n → f p = f q → p = q := by
  intro n
  induction n with
  | zero => intro f _ p hp; omega
  | succ n ih =>
    intro f hs
    obtain ⟨j0, hj0, e0⟩ := hs n (by omega)
    have h1 := ih (fun j => if j = j0 then f n else f j) (fun v hv => by
      obtain ⟨j, hj, e⟩ := hs v (by omega)
      by_cases q : j = n
      · refine ⟨j0, ?_, ?_⟩
        · by_cases z : j0 = n
          · rw [z] at e0; rw [q] at e; omega
          · omega
        · show (if j0 = j0 then f n else f j0) = v
          rw [if_pos rfl, ← q]; exact e
      · refine ⟨j, by omega, ?_⟩
        show (if j = j0 then f n else f j) = v
        rw [if_neg (fun z => by rw [z] at e; omega)]; exact e)
    have h2 : ∀ p, p < n → p ≠ j0 → f p < n := fun p hp hq => by
      have := (h1 p hp).1
      rw [if_neg hq] at this
      exact this
    have h3 : ∀ p q, p < n → q < n → p ≠ j0 → q ≠ j0 → f p = f q → p = q := fun p q hp hq p0 q0 e => (h1 p hp).2 q hq (by rw [if_neg p0, if_neg q0]; exact e)
    have h4 : j0 < n → f n < n := fun hz => by
      have := (h1 j0 hz).1
      rw [if_pos rfl] at this
      exact this
    have h5 : j0 < n → ∀ q, q < n → q ≠ j0 → f n ≠ f q := fun hz q hq q0 e => q0 ((h1 j0 hz).2 q hq (by rw [if_pos rfl, if_neg q0]; exact e)).symm
    intro p hp
    refine ⟨?_, fun q hq e => ?_⟩
    · by_cases p0 : p = j0
      · rw [p0, e0]; omega
      · by_cases p1 : p = n
        · have := h4 (by omega)
          rw [p1]; omega
        · have := h2 p (by omega) p0
          omega
    · by_cases p0 : p = j0
      · by_cases q0 : q = j0
        · omega
        · exfalso
          rw [p0, e0] at e
          by_cases q1 : q = n
          · have := h4 (by omega)
            rw [← q1] at this; omega
          · have := h2 q (by omega) q0
            omega
      · by_cases q0 : q = j0
        · exfalso
          rw [q0, e0] at e
          by_cases p1 : p = n
          · have := h4 (by omega)
            rw [← p1] at this; omega
          · have := h2 p (by omega) p0
            omega
        · by_cases p1 : p = n
          · by_cases q1 : q = n
            · omega
            · rw [p1] at e
              exact absurd e (h5 (by omega) q (by omega) q0)
          · by_cases q1 : q = n
            · rw [q1] at e
              exact absurd e.symm (h5 (by omega) p (by omega) p0)
            · exact h3 p q (by omega) (by omega) p0 q0 e
def vO (V : Nat → Int) : Nat → Nat := fun p => (V p).toNat
section BR
variable {V V1 : Nat → Int} {nv n m : Int} {K F : Nat → Int64} {O N : List (Int64 × Int64)} {l l1 : Po} {w : Int32}
theorem on_lt (hO : onto V nv) (h0 : 0 ≤ nv ∧ nv ≤ 8) {p : Nat} (hp : p < nv.toNat) : (V p).toNat < nv.toNat ∧ ∀ q, q < nv.toNat → (V p).toNat = (V q).toNat → p = q := pig nv.toNat (vO V) (fun v hv => by
  obtain ⟨j, hj, e⟩ := onto_s hO h0.1 v hv
  exact ⟨j, hj, by show (V j).toNat = v; omega⟩) p hp
theorem pm_on (hO : onto V nv) (h0 : 0 ≤ nv ∧ nv ≤ 8) : pmV (vO V) nv.toNat := ⟨by omega, fun p hp => by have := (on_lt hO h0 hp).1; show (V p).toNat < 8; omega, fun p q hp hq e => (on_lt hO h0 hp).2 q hq e⟩
theorem bv_lt {x : Int64} {k : Nat} (h : ∀ i, k ≤ i → x.toBitVec.getLsbD i = false) : x.toBitVec.toNat < 2 ^ k := Nat.lt_pow_two_of_testBit _ fun i hi => h i hi
theorem of_bv {x : Int64} : Int64.ofNat x.toBitVec.toNat = x := by
  apply Int64.toBitVec_inj.mp
  have e1 : ∀ n : Nat, (Int64.ofNat n).toBitVec = BitVec.ofNat 64 n := fun _ => rfl
  rw [e1]
  exact BitVec.eq_of_toNat_eq (by rw [BitVec.toNat_ofNat, Nat.mod_eq_of_lt x.toBitVec.isLt])
/-- a word's key as a number -/
theorem br (hO : onto V nv) (h0 : 0 ≤ nv ∧ nv ≤ 8) (hw : val nv.toNat w) : ∃ N : Nat, (N < 256 ^ nv.toNat ∧ N < 2 ^ 63) ∧ (∀ p, p < 8 → dgt N p ≤ 15) ∧ Int64.ofNat N = kof V w nv.toNat ∧ Int64.ofNat (tr (vO V) nv.toNat N) = kof idv w 8 := by
  have hb := bt_kof (w := w) hO.1 nv.toNat (by omega)
  have hbit : ∀ i, (kof V w nv.toNat).toBitVec.toNat.testBit i = (decide (i < 8 * nv.toNat) && decide (i % 8 < 4) && w.toBitVec.getLsbD (4 * (V (i / 8)).toNat + i % 8)) := hb
  have hn : (kof V w nv.toNat).toBitVec.toNat < 256 ^ nv.toNat := by
    rw [p256]
    refine bv_lt fun i hi => ?_
    rw [hb, show decide (i < 8 * nv.toNat) = false by simp; omega]
    rfl
  have hdg : ∀ p r, (dgt (kof V w nv.toNat).toBitVec.toNat p).testBit r = (decide (r < 8) && (decide (p < nv.toNat) && decide (r < 4) && w.toBitVec.getLsbD (4 * (V p).toNat + r))) := fun p r => by
    rw [dg_bit, hbit]
    by_cases q : r < 8
    · rw [show (8 * p + r) / 8 = p by omega, show (8 * p + r) % 8 = r by omega]
      by_cases q2 : p < nv.toNat
      · rw [show decide (8 * p + r < 8 * nv.toNat) = true by simp; omega, show decide (p < nv.toNat) = true by simp; omega]
      · rw [show decide (8 * p + r < 8 * nv.toNat) = false by simp; omega, show decide (p < nv.toNat) = false by simp; omega]
    · rw [show decide (r < 8) = false by simp; omega, Bool.false_and, Bool.false_and]
  refine ⟨(kof V w nv.toNat).toBitVec.toNat, ⟨hn, bv_lt fun i hi => ?_⟩, fun p hp => ?_, of_bv, ?_⟩
  · rw [hb]
    by_cases q : i < 8 * nv.toNat
    · rw [show decide (i % 8 < 4) = false by simp; omega, Bool.and_false, Bool.false_and]
    · rw [show decide (i < 8 * nv.toNat) = false by simp; omega, Bool.false_and, Bool.false_and]
  · have : dgt (kof V w nv.toNat).toBitVec.toNat p < 2 ^ 4 := Nat.lt_pow_two_of_testBit _ fun r hr => by
      rw [hdg, show decide (r < 4) = false by simp; omega, Bool.and_false, Bool.false_and, Bool.and_false]
    omega
  · apply Int64.toBitVec_inj.mp
    apply BitVec.eq_of_getLsbD_eq
    intro i hi
    have eI : kof idv w 8 = kof (fun j => idv (j % 8)) w 8 := kof_cg 8 fun j hj => by rw [Nat.mod_eq_of_lt hj]
    have e1 : ∀ n : Nat, (Int64.ofNat n).toBitVec = BitVec.ofNat 64 n := fun _ => rfl
    rw [eI, bt_kof idv_b 8 (by decide), e1, BitVec.getLsbD_ofNat]
    have hL : (tr (vO V) nv.toNat (kof V w nv.toNat).toBitVec.toNat).testBit i = (dgt (tr (vO V) nv.toNat (kof V w nv.toNat).toBitVec.toNat) (i / 8)).testBit (i % 8) := by
      rw [dg_bit, show 8 * (i / 8) + i % 8 = i by omega, show decide (i % 8 < 8) = true by rw [decide_eq_true_iff]; omega, Bool.true_and]
    have e2 : (idv (i / 8 % 8)).toNat = i / 8 := by
      show (((i / 8 % 8 : Nat) : Int)).toNat = i / 8
      rw [Int.toNat_natCast]; omega
    rw [hL, dgt_tr (by omega), e2, show decide (i < 64) = true by simp [hi], Bool.true_and, Bool.true_and]
    unfold etr
    split
    next p e =>
      obtain ⟨q1, q2⟩ := plv_some _ e
      have q2 : (V p).toNat = i / 8 := q2
      rw [hdg, q2, show decide (i % 8 < 8) = true by rw [decide_eq_true_iff]; omega, show decide (p < nv.toNat) = true by simp [q1], Bool.true_and, Bool.true_and]
    next e =>
      rw [Nat.zero_testBit]
      by_cases q : i / 8 < nv.toNat
      · exfalso
        obtain ⟨j, hj, ej⟩ := onto_s hO h0.1 (i / 8) q
        have e5 := plv_V (pm_on hO h0) hj
        have e6 : vO V j = i / 8 := by show (V j).toNat = i / 8; omega
        rw [e6, e] at e5
        cases e5
      · by_cases q2 : i % 8 < 4
        · rw [hw _ (by omega), Bool.and_false]
        · rw [show decide (i % 8 < 4) = false by simp; omega, Bool.false_and]
theorem on_inj {a b : Nat} (ha : a < 2 ^ 64) (hb : b < 2 ^ 64) (e : Int64.ofNat a = Int64.ofNat b) : a = b := by
  rw [← on_bv ha, e, on_bv hb]
/-- a reference list has numbers -/
theorem L4 (hO : onto V nv) (h0 : 0 ≤ nv ∧ nv ≤ 8) : ∀ (O : List (Int64 × Int64)), (∀ x, x ∈ O → ∃ w, val nv.toNat w ∧ x.1 = kof idv w 8) → ∃ l : Po, O = l.map (enR (vO V) nv.toNat) ∧ ∀ x, x ∈ l → x.1 < 256 ^ nv.toNat ∧ x.1 < 2 ^ 63 := by
  intro O
  induction O with
  | nil => intro _; exact ⟨[], rfl, fun x hx => absurd hx List.not_mem_nil⟩
  | cons y O ih =>
    intro h
    obtain ⟨l, e, hl⟩ := ih fun x hx => h x (List.mem_cons_of_mem _ hx)
    obtain ⟨w, hw, ew⟩ := h y List.mem_cons_self
    obtain ⟨N, h1, _, _, h4⟩ := br hO h0 hw
    refine ⟨(N, y.2) :: l, ?_, fun x hx => ?_⟩
    · show y :: O = enR (vO V) nv.toNat (N, y.2) :: l.map (enR (vO V) nv.toNat)
      rw [← e]
      have : enR (vO V) nv.toNat (N, y.2) = y := by
        show (Int64.ofNat (tr (vO V) nv.toNat N), y.2) = y
        rw [h4, ← ew]
      rw [this]
    · rcases List.mem_cons.mp hx with rfl | hx
      · exact h1
      · exact hl x hx
/-- in order, of numbers -/
def sW (V : Nat → Int) (nv : Int) (O : List (Int64 × Int64)) : Prop := ∃ l : Po, O = l.map (enR (vO V) nv.toNat) ∧ l.Pairwise (fun x y => y.1 ≤ x.1) ∧ ∀ x, x ∈ l → x.1 < 256 ^ nv.toNat
/-- a class list has numbers -/
theorem L4c (hO : onto V nv) (h0 : 0 ≤ nv ∧ nv ≤ 8) : ∀ n : Nat, (∀ t : Nat, t < n → ∃ w, val nv.toNat w ∧ K t = kof V w nv.toNat) → ∃ l : Po, ls (fun t => (K t, F t)) n = l.map en ∧ ∀ x, x ∈ l → (x.1 < 256 ^ nv.toNat ∧ x.1 < 2 ^ 63) ∧ ∀ p, p < 8 → dgt x.1 p ≤ 15 := by
  intro n
  induction n with
  | zero => intro _; exact ⟨[], rfl, fun x hx => absurd hx List.not_mem_nil⟩
  | succ n ih =>
    intro h
    obtain ⟨l, e, hl⟩ := ih fun t ht => h t (by omega)
    obtain ⟨w, hw, ew⟩ := h n (by omega)
    obtain ⟨N, h1, h2, h3, _⟩ := br hO h0 hw
    refine ⟨l ++ [(N, F n)], ?_, fun x hx => ?_⟩
    · show ls (fun t => (K t, F t)) n ++ [(K n, F n)] = _
      rw [List.map_append, ← e]
      have : en (N, F n) = (K n, F n) := by
        show (Int64.ofNat N, F n) = (K n, F n)
        rw [h3, ← ew]
      show _ = _ ++ [en (N, F n)]
      rw [this]
    · rcases List.mem_append.mp hx with hx | hx
      · exact hl x hx
      · rw [List.mem_singleton] at hx
        rw [hx]; exact ⟨h1, h2⟩
theorem ti63 {N : Nat} (h : N < 2 ^ 63) : (Int64.ofNat N).toInt = (N : Int) := Int64.toInt_ofNat_of_lt h
/-- the class's polynomial as a list -/
theorem L5c (hO : onto V nv) (h0 : 0 ≤ nv ∧ nv ≤ 8) (hn : 0 ≤ n ∧ n ≤ 60) (h : ∀ t : Nat, (t : Int) < n → ∃ w, val nv.toNat w ∧ K t = kof V w nv.toNat) (hs : sst K n) (hg : ∀ t : Nat, (t : Int) < n → gl (F t)) : ∃ l : Po, n = (l.length : Int) ∧ ls (fun t => (K t, F t)) l.length = l.map en ∧ gk nv.toNat l ∧ ∀ x, x ∈ l → x.1 < 2 ^ 63 := by
  obtain ⟨l, e, hl⟩ := L4c (F := F) hO h0 n.toNat (fun t ht => h t (by omega))
  have e1 : n.toNat = l.length := by
    have := congrArg List.length e
    rw [ls_len, List.length_map] at this
    exact this
  have hat : ∀ i, (hi : i < l.length) → K i = Int64.ofNat (l[i]).1 ∧ F i = (l[i]).2 := fun i hi => by
    obtain ⟨x, h8, h9, _⟩ := ls_at (by rw [← e1]; exact e) hi
    rw [List.drop_eq_getElem_cons hi] at h8
    have h6 : l[i] = x := (List.cons.inj h8).1
    have h7 : (K i, F i) = en l[i] := by rw [h6]; exact h9
    exact ⟨congrArg Prod.fst h7, congrArg Prod.snd h7⟩
  refine ⟨l, by omega, by rw [← e1]; exact e, ⟨⟨?_, fun x hx => ?_⟩, ⟨by omega, fun x hx => ⟨?_, (hl x hx).2⟩⟩, fun x hx => (hl x hx).1.1⟩, fun x hx => (hl x hx).1.2⟩
  · rw [List.pairwise_iff_getElem]
    intro i j hi hj hij
    have h9 := hs i j hij (by omega)
    rw [(hat i hi).1, (hat j hj).1, ti63 (hl _ (List.getElem_mem hi)).1.2, ti63 (hl _ (List.getElem_mem hj)).1.2] at h9
    omega
  · obtain ⟨i, hi, rfl⟩ := List.getElem_of_mem hx
    have h9 := hg i (by omega)
    rw [(hat i hi).2] at h9
    exact fun z => h9.1 (by rw [z]; rfl)
  · obtain ⟨i, hi, rfl⟩ := List.getElem_of_mem hx
    have h9 := hg i (by omega)
    rw [(hat i hi).2] at h9
    exact h9.2
/-- both sides hold one list -/
theorem L5 (hO : onto V nv) (h0 : 0 ≤ nv ∧ nv ≤ 8) (hn : 0 ≤ n ∧ n ≤ 60) (h : pr5 V nv n K F m O) (hg : ∀ t : Nat, (t : Int) < n → gl (F t)) (hs : sW V nv O) : ∃ l : Po, (n = (l.length : Int) ∧ ls (fun t => (K t, F t)) l.length = l.map en) ∧ gk nv.toNat l ∧ (m = (l.length : Int) ∧ O = l.map (enR (vO V) nv.toNat)) := by
  obtain ⟨a1, a2, a3, a4, a5⟩ := h
  obtain ⟨l, e1, e2, hk, _⟩ := L5c hO h0 hn a2 a3 hg
  obtain ⟨l1, f1, f2, f3⟩ := hs
  have hpm := pm_on hO h0
  have w1 : ∀ x, x ∈ l → ∃ w, val nv.toNat w ∧ Int64.ofNat x.1 = kof V w nv.toNat := fun x hx => by
    have h9 : en x ∈ ls (fun t => (K t, F t)) l.length := by rw [e2]; exact List.mem_map.mpr ⟨x, hx, rfl⟩
    obtain ⟨t, ht, e⟩ := (ls_mem _).mp h9
    obtain ⟨w, hw, ew⟩ := a2 t (by omega)
    exact ⟨w, hw, (congrArg Prod.fst e).symm.trans ew⟩
  have w2 : ∀ x, x ∈ l1 → ∃ w, val nv.toNat w ∧ Int64.ofNat x.1 = kof V w nv.toNat ∧ Int64.ofNat (tr (vO V) nv.toNat x.1) = kof idv w 8 := fun x hx => by
    obtain ⟨w, hw, ew⟩ := a4 (enR (vO V) nv.toNat x) (by rw [f1]; exact List.mem_map.mpr ⟨x, hx, rfl⟩)
    have ew : Int64.ofNat (tr (vO V) nv.toNat x.1) = kof idv w 8 := ew
    obtain ⟨N, q1, _, q3, q4⟩ := br hO h0 hw
    have e := on_inj tr_64 tr_64 (q4.trans ew.symm)
    have e := tr_inj hpm q1.1 (f3 x hx) e
    exact ⟨w, hw, by rw [← e]; exact q3, ew⟩
  have b64 : ∀ x : Nat × Int64, x.1 < 256 ^ nv.toNat → x.1 < 2 ^ 64 := fun x hx => Nat.lt_of_lt_of_le hx (by rw [p256]; exact Nat.pow_le_pow_right (by decide) (by omega))
  let g : Nat × Int64 → Int32 × Int64 := fun x => (pof V (Int64.ofNat x.1) nv.toNat, x.2)
  have hp : (l.map g).Perm (l1.map g) := by
    have c1 : (ls (fun t => (K t, F t)) n.toNat).map (wrd V nv) = l.map g := by
      rw [show n.toNat = l.length by omega, e2, List.map_map]
      rfl
    have c2 : O.map rwd = l1.map g := by
      rw [f1, List.map_map]
      refine List.map_congr_left fun x hx => ?_
      obtain ⟨w, hw, q1, q2⟩ := w2 x hx
      show (pof idv (Int64.ofNat (tr (vO V) nv.toNat x.1)) 8, x.2) = (pof V (Int64.ofNat x.1) nv.toNat, x.2)
      rw [q2, rw_id, q1, cw hO h0 hw]
    rw [c1, c2] at a5
    exact a5
  have inj : ∀ x y : Nat × Int64, (∃ w, val nv.toNat w ∧ Int64.ofNat x.1 = kof V w nv.toNat) → (∃ w, val nv.toNat w ∧ Int64.ofNat y.1 = kof V w nv.toNat) → x.1 < 2 ^ 64 → y.1 < 2 ^ 64 → (g x).1 = (g y).1 → x.1 = y.1 := fun x y ⟨w, hw, ew⟩ ⟨u, hu, eu⟩ bx byy e => by
    have e : pof V (Int64.ofNat x.1) nv.toNat = pof V (Int64.ofNat y.1) nv.toNat := e
    rw [ew, eu, cw hO h0 hw, cw hO h0 hu] at e
    exact on_inj bx byy (by rw [ew, eu, e])
  have g1 : ∀ x, x ∈ l1 → ∃ w, val nv.toNat w ∧ Int64.ofNat x.1 = kof V w nv.toNat := fun x hx => by
    obtain ⟨w, q1, q2, _⟩ := w2 x hx
    exact ⟨w, q1, q2⟩
  have m1 : ∀ x, x ∈ l ↔ x ∈ l1 := fun x => by
    constructor
    · intro hx
      obtain ⟨y, hy, e⟩ := List.mem_map.mp (hp.subset (List.mem_map.mpr ⟨x, hx, rfl⟩))
      have q1 := inj y x (g1 y hy) (w1 x hx) (b64 y (f3 y hy)) (b64 x (hk.2.2 x hx)) (congrArg Prod.fst e)
      have q2 : (g y).2 = (g x).2 := congrArg Prod.snd e
      have q2 : y.2 = x.2 := q2
      rw [← show y = x from Prod.ext q1 q2]; exact hy
    · intro hx
      obtain ⟨y, hy, e⟩ := List.mem_map.mp (hp.symm.subset (List.mem_map.mpr ⟨x, hx, rfl⟩))
      have q1 := inj y x (w1 y hy) (g1 x hx) (b64 y (hk.2.2 y hy)) (b64 x (f3 x hx)) (congrArg Prod.fst e)
      have q2 : (g y).2 = (g x).2 := congrArg Prod.snd e
      have q2 : y.2 = x.2 := q2
      rw [← show y = x from Prod.ext q1 q2]; exact hy
  have nd : (l1.map fun x => (g x).1).Nodup := by
    have h9 : (l.map fun x => (g x).1).Perm (l1.map fun x => (g x).1) := by
      have := hp.map Prod.fst
      rw [List.map_map, List.map_map] at this
      exact this
    refine h9.nodup_iff.mp ?_
    show (l.map fun x => (g x).1).Pairwise (· ≠ ·)
    rw [List.pairwise_map]
    refine List.Pairwise.imp_of_mem ?_ hk.1.1
    intro x y hx hy hlt e
    have := inj x y (w1 x hx) (w1 y hy) (b64 x (hk.2.2 x hx)) (b64 y (hk.2.2 y hy)) e
    omega
  have n1 : nrm l1 := by
    refine ⟨?_, fun x hx => hk.1.2 x ((m1 x).mpr hx)⟩
    have nd : (l1.map fun x => (g x).1).Pairwise (· ≠ ·) := nd
    rw [List.pairwise_map] at nd
    have := f2.and nd
    refine this.imp ?_
    intro x y hxy
    have h1 := hxy.1
    have h2 : x.1 ≠ y.1 := fun z => hxy.2 (by show pof V (Int64.ofNat x.1) nv.toNat = pof V (Int64.ofNat y.1) nv.toNat; rw [z])
    omega
  have e := nrm_eq l l1 hk.1 n1 m1
  subst e
  exact ⟨l, ⟨e1, e2⟩, hk, by rw [a1, e1], f1⟩
/-- a variable more -/
theorem tr_nv (hO : onto V nv) (h0 : 0 ≤ nv ∧ nv < 8) {N : Nat} (hN : N < 256 ^ nv.toNat) : tr (vO (u1 V nv.toNat nv)) (nv + 1).toNat N = tr (vO V) nv.toNat N := by
  unfold tr
  refine mk8_cg 8 fun v hv => ?_
  have key : ∀ k : Nat, k ≤ nv.toNat → plv (vO (u1 V nv.toNat nv)) v k = plv (vO V) v k := by
    intro k
    induction k with
    | zero => intro _; rfl
    | succ k ih =>
      intro hk
      show (if vO (u1 V nv.toNat nv) k = v then some k else plv (vO (u1 V nv.toNat nv)) v k) = (if vO V k = v then some k else plv (vO V) v k)
      have e : vO (u1 V nv.toNat nv) k = vO V k := by
        show (u1 V nv.toNat nv k).toNat = (V k).toNat
        rw [u1_o (by omega)]
      rw [e, ih (by omega)]
  unfold etr
  rw [show (nv + 1).toNat = nv.toNat + 1 by omega]
  have e1 : plv (vO (u1 V nv.toNat nv)) v (nv.toNat + 1) = if v = nv.toNat then some nv.toNat else plv (vO V) v nv.toNat := by
    show (if vO (u1 V nv.toNat nv) nv.toNat = v then some nv.toNat else plv (vO (u1 V nv.toNat nv)) v nv.toNat) = _
    have e : vO (u1 V nv.toNat nv) nv.toNat = nv.toNat := by
      show (u1 V nv.toNat nv nv.toNat).toNat = _
      rw [u1_s]
    rw [e, key _ (Nat.le_refl _)]
    by_cases q : nv.toNat = v
    · rw [if_pos q, if_pos q.symm]
    · rw [if_neg q, if_neg (fun z => q z.symm)]
  rw [e1]
  by_cases q : v = nv.toNat
  · rw [if_pos q]
    have e2 : plv (vO V) v nv.toNat = none := by
      cases e9 : plv (vO V) v nv.toNat with
      | none => rfl
      | some p =>
        obtain ⟨q1, q2⟩ := plv_some _ e9
        have := (on_lt hO (by omega) q1).1
        have q2 : (V p).toNat = v := q2
        omega
    rw [e2]
    exact dgt_hi hN (Nat.le_refl _)
  · rw [if_neg q]
theorem gk_mono {a b : Nat} (h : gk a l) (e : a ≤ b) : gk b l := ⟨h.1, h.2.1, fun x hx => Nat.lt_of_lt_of_le (h.2.2 x hx) (Nat.pow_le_pow_right (by decide) e)⟩
theorem sW_nv (h : sW V nv O) (hO : onto V nv) (h0 : 0 ≤ nv ∧ nv < 8) : sW (u1 V nv.toNat nv) (nv + 1) O := by
  obtain ⟨l, e, h1, h2⟩ := h
  refine ⟨l, ?_, h1, fun x hx => Nat.lt_of_lt_of_le (h2 x hx) (Nat.pow_le_pow_right (by decide) (by omega))⟩
  rw [e]
  refine List.map_congr_left fun x hx => ?_
  show (Int64.ofNat (tr (vO V) nv.toNat x.1), x.2) = (Int64.ofNat (tr (vO (u1 V nv.toNat nv)) (nv + 1).toNat x.1), x.2)
  rw [tr_nv hO h0 (h2 x hx)]
theorem sW_nil : sW V nv [] := ⟨[], rfl, List.Pairwise.nil, fun x hx => absurd hx List.not_mem_nil⟩
/-- what sorting leaves -/
theorem sW_so {ai : Nat → Nat → Int} {al al1 : Nat → Nat → Int64} {sc : Nat → Int} {i : Nat} (hs : sorS sc ai al al1 i) (e1 : sc 1 = nv) (e2 : ai 240 = V) (hO : onto V nv) (h0 : 0 ≤ nv ∧ nv ≤ 8) (hc : 0 ≤ ai 242 i) (hv : ∀ x, x ∈ ls (pr_ al (60 * i)) (ai 242 i).toNat → ∃ w, val nv.toNat w ∧ x.1 = kof idv w 8) : sW V nv (ls (pr_ al1 (60 * i)) (ai 242 i).toNat) := by
  obtain ⟨l, e, hl⟩ := L4 hO h0 _ hv
  have e3 : vR ai = vO V := by
    funext p
    show (ai 240 p).toNat = (V p).toNat
    rw [e2]
  have e4 : (ai 242 i).toNat = l.length := by
    have := congrArg List.length e
    rw [ls_len, List.length_map] at this
    exact this
  obtain ⟨l1, p1, p2, p3⟩ := hs nv.toNat (by omega) (by rw [e3]; exact pm_on hO h0) l ⟨by omega, by rw [e3, ← e4]; exact e⟩ hl
  rw [e3] at p3
  have p4 : (ai 242 i).toNat = l1.length := by rw [e4, p1.length_eq]
  refine ⟨l1, ?_, p2, fun x hx => (hl x (p1.subset hx)).1⟩
  rw [p4]
  exact p3.2
end BR
