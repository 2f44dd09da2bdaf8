/-! Settling what is gathered. -/
def nzP (G : Po) : Po := G.filter fun x => ¬ x.2 = 0
def badP (G : Po) : Prop := (∃ x, x ∈ G ∧ x.2 ≠ 0 ∧ ¬ sm1 x) ∨ 60 < (nzP G).length
def seI (V : Nat → Nat) (nv : Nat) (G : Po) (sc : Nat → Int) (ai : Nat → Nat → Int) (al al1 : Nat → Nat → Int64) (az1 : Nat → Nat → Int32) (i : Nat) (x2 x3 x4 : Int) : Prop := slF al al1 i ∧ tbk sc ai az1 x4 ∧ ((x3 = 1 ∧ ∃ O : Po, (x2 = (O.length : Int) ∧ ∀ x, x ∈ O → sm1 x) ∧ ls (fun t => (al1 244 (60 * i + t), al1 243 (60 * i + t))) O.length = O.map (enR V nv) ∧ O ++ nzP (G.drop x4.toNat) = nzP G) ∨ (x3 = 0 ∧ badP G))
section SE
variable {V : Nat → Nat} {nv i : Nat} {sc sc1 : Nat → Int} {ai ai1 : Nat → Nat → Int} {al al1 al2 al3 : Nat → Nat → Int64} {az az1 az2 : Nat → Nat → Int32} {G : Po} {x2 x3 x4 : Int} {y : Nat × Int64}
theorem nz_y {l : Po} (h : y.2 ≠ 0) : nzP (y :: l) = y :: nzP l := by
  unfold nzP
  rw [List.filter_cons, if_pos (by simp [h])]
theorem nz_n {l : Po} (h : y.2 = 0) : nzP (y :: l) = nzP l := by
  unfold nzP
  rw [List.filter_cons, if_neg (by simp [h])]
theorem se_0 (h : tb sc ai az) : seI V nv G sc ai al al az i 0 1 0 := ⟨⟨fun _ _ _ => rfl, fun _ _ _ => rfl⟩, tbk_0 h, Or.inl ⟨rfl, [], ⟨rfl, fun _ h => by cases h⟩, rfl, rfl⟩⟩
/-- the entry x4 -/
theorem se_x (hG : tbG V nv sc ai al az G) (hx : 0 ≤ x4 ∧ x4 < sc 38) : ∃ y, G.drop x4.toNat = y :: G.drop (x4 + 1).toNat ∧ al 257 (ai 260 x4.toNat).toNat = Int64.ofNat (tr V nv y.1) ∧ al 258 (ai 260 x4.toNat).toNat = y.2 ∧ y ∈ G := by
  have h1 := hG.1.2
  have ht : x4.toNat < G.length := by omega
  obtain ⟨⟨q1, q2, _⟩, _⟩ := hG.2.2 x4.toNat G[x4.toNat] (List.getElem?_eq_getElem ht)
  exact ⟨G[x4.toNat], by rw [show (x4 + 1).toNat = x4.toNat + 1 by omega]; exact List.drop_eq_getElem_cons ht, q1, q2, List.getElem_mem ht⟩
theorem se_z {v : Int32} (h : seI V nv G sc ai al al1 az1 i x2 x3 x4) (e1 : G.drop x4.toNat = y :: G.drop (x4 + 1).toNat) (h0 : 0 ≤ x4) (hy : y.2 = 0 ∨ x3 = 0) (hv : v = 0) (d : az2 = u2 az1 259 (ai 260 x4.toNat).toNat v) : seI V nv G sc ai al al1 az2 i x2 x3 (x4 + 1) := by
  obtain ⟨h1, h2, h3⟩ := h
  refine ⟨h1, tbk_step h2 h0 hv d, ?_⟩
  rcases h3 with ⟨g1, O, g2, g3, g4⟩ | g
  · refine Or.inl ⟨g1, O, g2, g3, ?_⟩
    rw [e1, nz_n (by rcases hy with q | q; exact q; omega)] at g4
    exact g4
  · exact Or.inr g
theorem se_bad {v : Int32} (h : seI V nv G sc ai al al1 az1 i x2 x3 x4) (e1 : G.drop x4.toNat = y :: G.drop (x4 + 1).toNat) (e2 : y ∈ G) (h0 : 0 ≤ x4) (hv : v = 0) (d : az2 = u2 az1 259 (ai 260 x4.toNat).toNat v) (hs : x3 = 1) (hy : y.2 ≠ 0) (hb : 60 ≤ x2 ∨ ¬ sm1 y) : seI V nv G sc ai al al1 az2 i x2 0 (x4 + 1) := by
  obtain ⟨h1, h2, h3⟩ := h
  refine ⟨h1, tbk_step h2 h0 hv d, Or.inr ⟨rfl, ?_⟩⟩
  rcases hb with hb | hb
  · rcases h3 with ⟨g1, O, g2, g3, g4⟩ | g
    · right
      rw [e1, nz_y hy] at g4
      rw [← g4, List.length_append, List.length_cons]
      omega
    · omega
  · exact Or.inl ⟨y, e2, hy, hb⟩
theorem se_ok {v : Int32} {m : Nat} {c k : Int64} (h : seI V nv G sc ai al al1 az1 i x2 x3 x4) (e1 : G.drop x4.toNat = y :: G.drop (x4 + 1).toNat) (h0 : 0 ≤ x4) (hv : v = 0) (d : az2 = u2 az1 259 (ai 260 x4.toNat).toNat v) (hs : x3 = 1) (hy : y.2 ≠ 0) (hg : sm1 y) (h2 : 0 ≤ x2 ∧ x2 < 60) (hm : m = 60 * i + x2.toNat) (hc : c = y.2) (hk : k = Int64.ofNat (tr V nv y.1)) (d1 : al2 = u2 al1 243 m c) (d2 : al3 = u2 al2 244 m k) : seI V nv G sc ai al al3 az2 i (x2 + 1) 1 (x4 + 1) := by
  subst hm
  obtain ⟨h1, h4, h3⟩ := h
  refine ⟨⟨fun a a1 a2 => by rw [d2, u2_af a2, d1, u2_af a1]; exact h1.1 a a1 a2, fun a j hj => ?_⟩, tbk_step h4 h0 hv d, Or.inl ⟨rfl, ?_⟩⟩
  · rw [← h1.2 a j hj, d2]
    unfold u2
    rw [if_neg (by omega), d1]
    unfold u2
    rw [if_neg (by omega)]
  · rcases h3 with ⟨g1, O, g2, g3, g4⟩ | g
    · rw [e1, nz_y hy] at g4
      refine ⟨O ++ [y], ⟨by rw [List.length_append, g2.1]; rfl, fun x hx => ?_⟩, ?_, by rw [List.append_assoc]; exact g4⟩
      · rcases List.mem_append.mp hx with q | q
        · exact g2.2 x q
        · rw [List.mem_singleton.mp q]; exact hg
      · refine lsR_push (x := y) (K := fun t => al1 244 (60 * i + t)) (F := fun t => al1 243 (60 * i + t)) (K1 := fun t => al3 244 (60 * i + t)) (F1 := fun t => al3 243 (60 * i + t)) g3 (fun t ht => ⟨?_, ?_⟩) ?_ ?_
        · show al3 244 (60 * i + t) = al1 244 (60 * i + t)
          rw [d2, u2_o (by omega), d1, u2_af (by decide)]
        · show al3 243 (60 * i + t) = al1 243 (60 * i + t)
          rw [d2, u2_af (by decide), d1, u2_o (by omega)]
        · show al3 244 (60 * i + O.length) = Int64.ofNat (tr V nv y.1)
          rw [d2, show 60 * i + O.length = 60 * i + x2.toNat by omega, u2_s, hk]
        · show al3 243 (60 * i + O.length) = y.2
          rw [d2, u2_af (by decide), d1, show 60 * i + O.length = 60 * i + x2.toNat by omega, u2_s, hc]
    · omega
/-- is a key small -/
theorem sm_k {N : Nat} {k : Int64} {q : Int} (hV : pmV V nv) (hN : N < 256 ^ nv) (hk : k = Int64.ofNat (tr V nv N)) (h : q = 1 ↔ ∀ v : Nat, (v : Int) < 8 → pw k (v : Int) ≤ 15) : q = 1 ↔ ∀ p, p < 8 → dgt N p ≤ 15 := by
  rw [h, ← tr_sm (V := V) hV hN, hk]
  constructor
  · intro g v hv
    have := g v (by omega)
    rw [pw_dgt tr_64 (by omega), Int.toNat_natCast] at this
    omega
  · intro g v hv
    have := g v (by omega)
    rw [pw_dgt tr_64 (by omega), Int.toNat_natCast]
    omega
theorem cf_nz {k : Nat} : cf (nzP G) k = cf G k := by
  induction G with
  | nil => rfl
  | cons x G ih =>
    by_cases h : x.2 = 0
    · rw [nz_n h, cf_cons, ih, h]
      split <;> rw [Int64.zero_add]
    · rw [nz_y h, cf_cons, cf_cons, ih]
theorem nrm_of {l : Po} (hG : G.Pairwise (fun x y => x.1 ≠ y.1)) (hp : l.Perm (nzP G)) (hs : l.Pairwise (fun x y => y.1 ≤ x.1)) : nrm l := by
  have h1 : (nzP G).Pairwise (fun x y => x.1 ≠ y.1) := hG.sublist List.filter_sublist
  have h2 : l.Pairwise (fun x y => x.1 ≠ y.1) := hp.symm.pairwise h1 (fun h => Ne.symm h)
  refine ⟨(hs.and h2).imp fun ⟨a, b⟩ => by omega, fun x hx => ?_⟩
  have := (List.mem_filter.mp (hp.mem_iff.mp hx)).2
  simpa using this
theorem srt_ex : ∃ l : Po, l.Perm (nzP G) ∧ l.Pairwise (fun x y => y.1 ≤ x.1) := by
  refine ⟨(nzP G).mergeSort (fun x y => decide (y.1 ≤ x.1)), List.mergeSort_perm _ _, ?_⟩
  have := List.pairwise_mergeSort (le := fun (x y : Nat × Int64) => decide (y.1 ≤ x.1)) (fun a b c h1 h2 => by simp at h1 h2 ⊢; omega) (fun a b => by simp; omega) (nzP G)
  exact this.imp fun h => by simpa using h
theorem bad_no {l : Po} (hb : badP G) (hp : l.Perm (nzP G)) : ¬ snP l := by
  rintro ⟨h1, h2⟩
  rcases hb with ⟨x, g1, g2, g3⟩ | g
  · exact g3 (h2 x (hp.mem_iff.mpr (List.mem_filter.mpr ⟨g1, by simpa using g2⟩)))
  · rw [← hp.length_eq] at g
    omega
/-- what settling leaves -/
def seO (V : Nat → Nat) (nv : Nat) (G : Po) (ai1 : Nat → Nat → Int) (al1 : Nat → Nat → Int64) (i : Nat) (q : Int) : Prop := (q = 1 ∧ ∃ l, nrm l ∧ snP l ∧ (∀ k, cf l k = cf G k) ∧ (∀ x, x ∈ l → x.1 < 256 ^ nv) ∧ qL V nv ai1 al1 i l) ∨ (q = 0 ∧ ∃ l, nrm l ∧ ¬ snP l ∧ ∀ k, cf l k = cf G k)
theorem seO_n (hG : tbG V nv sc ai al az G) (h : seI V nv G sc ai al al1 az1 i x2 x3 x4) (h0 : x3 = 0) : seO V nv G ai1 al1 i 0 := by
  rcases h.2.2 with ⟨g1, _⟩ | ⟨_, g⟩
  · omega
  · obtain ⟨l, l1, l2⟩ := srt_ex (G := G)
    exact Or.inr ⟨rfl, l, nrm_of hG.2.1.1 l1 l2, bad_no g l1, fun k => by rw [cf_perm l1, cf_nz]⟩
theorem se_O (hG : tbG V nv sc ai al az G) (h : seI V nv G sc ai al al1 az1 i x2 x3 x4) (h1 : x3 = 1) (hx : sc 38 ≤ x4) (e : ai1 242 i = x2) : (x2 = ((nzP G).length : Int) ∧ ∀ x, x ∈ nzP G → sm1 x) ∧ qL V nv ai1 al1 i (nzP G) := by
  rcases h.2.2 with ⟨_, O, g2, g3, g4⟩ | ⟨g1, _⟩
  · have h38 := hG.1.2
    rw [List.drop_eq_nil_of_le (by omega)] at g4
    have e1 : O = nzP G := by
      have h6 : O ++ [] = nzP G := g4
      rwa [List.append_nil] at h6
    subst e1
    exact ⟨g2, by rw [e]; exact g2.1, g3⟩
  · omega
theorem seO_y {l : Po} {al2 : Nat → Nat → Int64} (hG : tbG V nv sc ai al az G) (hs : x2 = ((nzP G).length : Int) ∧ ∀ x, x ∈ nzP G → sm1 x) (h60 : x2 ≤ 60) (hp : l.Perm (nzP G)) (hw : l.Pairwise (fun x y => y.1 ≤ x.1)) (hq : qL V nv ai1 al2 i l) : seO V nv G ai1 al2 i 1 := by
  refine Or.inl ⟨rfl, l, nrm_of hG.2.1.1 hp hw, ⟨by rw [hp.length_eq]; omega, fun x hx => hs.2 x (hp.mem_iff.mp hx)⟩, fun k => by rw [cf_perm hp, cf_nz], fun x hx => hG.2.1.2 x ?_, hq⟩
  exact (List.mem_filter.mp (hp.mem_iff.mp hx)).1
theorem sm_63 {x : Nat × Int64} (h : sm1 x) (hn : nv ≤ 8) (hx : x.1 < 256 ^ nv) : x.1 < 2 ^ 63 := by
  have h8 : x.1 < 256 ^ 8 := Nat.lt_of_lt_of_le hx (Nat.pow_le_pow_right (by decide) hn)
  have h9 := h.2 7 (by decide)
  unfold dgt at h9
  have e7 : (256 : Nat) ^ 7 = 72057594037927936 := by decide
  have e8 : (256 : Nat) ^ 8 = 18446744073709551616 := by decide
  rw [e7] at h9
  rw [e8] at h8
  have e9 : (2 : Nat) ^ 63 = 9223372036854775808 := by decide
  rw [e9]
  omega
theorem tbG_0 (h : tbk sc ai az1 x4) (hx : sc 38 ≤ x4) (e : sc1 38 = 0) {ai2 : Nat → Nat → Int} {al2 : Nat → Nat → Int64} : tbG V nv sc1 ai2 al2 az1 [] := by
  refine ⟨⟨⟨by omega, fun j hj => by omega, fun j hj => ?_⟩, e⟩, ⟨List.Pairwise.nil, fun _ h => by cases h⟩, fun t x hx => by cases hx⟩
  obtain ⟨t, h1, h2, _⟩ := h j hj
  omega
end SE
def seF (V : Nat → Nat) (nv : Nat) (sc sc1 : Nat → Int) (ai ai1 : Nat → Nat → Int) (al al1 : Nat → Nat → Int64) (az az1 : Nat → Nat → Int32) (i : Nat) : Prop := ((∀ j, j ≠ 38 → sc1 j = sc j) ∧ (∃ n, ai1 = u2 ai 242 i n) ∧ slF al al1 i ∧ ∀ a, a ≠ 259 → az1 a = az a) ∧ tbG V nv sc1 ai1 al1 az1 []
theorem seF_e {V : Nat → Nat} {nv i : Nat} {G : Po} {sc sc1 : Nat → Int} {ai ai1 : Nat → Nat → Int} {al al1 al2 : Nat → Nat → Int64} {az az1 : Nat → Nat → Int32} {x2 x3 x4 n : Int} (h : seI V nv G sc ai al al1 az1 i x2 x3 x4) (hz : ∀ a, a ≠ 259 → az1 a = az a) (d1 : sc1 = u1 sc 38 0) (d2 : ai1 = u2 ai 242 i n) (hx : sc 38 ≤ x4) (ha : al2 = al1 ∨ slF al1 al2 i) : seF V nv sc sc1 ai ai1 al al2 az az1 i := by
  refine ⟨⟨fun j hj => by rw [d1, u1_o hj], ⟨n, d2⟩, ?_, hz⟩, tbG_0 h.2.1 hx (by rw [d1, u1_s])⟩
  rcases ha with e | e
  · rw [e]; exact h.1
  · exact ⟨fun a a1 a2 => (e.1 a a1 a2).trans (h.1.1 a a1 a2), fun a j hj => (e.2 a j hj).trans (h.1.2 a j hj)⟩
theorem seF_v {sc sc1 : Nat → Int} {nv : Nat} (d : sc1 = u1 sc 38 0) (hv : sc 1 = (nv : Int)) : sc1 1 = (nv : Int) := by rw [d, u1_o (by decide)]; exact hv
theorem seF_V {ai ai1 : Nat → Nat → Int} {i : Nat} {n : Int} (d : ai1 = u2 ai 242 i n) : vR ai1 = vR ai := by unfold vR; rw [d, u2_af (by decide)]
