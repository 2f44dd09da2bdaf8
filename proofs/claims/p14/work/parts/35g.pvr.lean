/-! Prove of the reference: lemmas. -/
/-- the reference's members -/
def msQ (fr : Nat → Bool) (V : Nat → Nat) (nv : Nat) (sc : Nat → Int) (ai : Nat → Nat → Int) (al : Nat → Nat → Int64) (m : Nat) (S : Nat → Po × Nat × Nat) : Prop := (sc 11 = (m : Int) ∧ m ≤ 8) ∧ ∀ j, j < m → (qL V nv ai al (58 + j) (S j).1 ∧ gk nv (S j).1) ∧ plP fr nv (S j).1 = ((S j).2.1 : Int) ∧ (S j).2.2 = dgP (S j).1 (S j).2.1
def pvQ (V : Nat → Nat) (nv : Nat) (r : Bool × Nat × Po) (sc : Nat → Int) (ai : Nat → Nat → Int) (al : Nat → Nat → Int64) : Prop := (sc 17 = (r.2.1 : Int) ∧ sc 12 = 1) ∧ r.1 = true ∧ (qL V nv ai al 67 r.2.2 ∧ gk nv r.2.2) ∧ (0 ≤ sc 19 ∧ sc 19 ≤ 200) ∧ (0 ≤ sc 25 ∧ sc 25 ≤ 12000) ∧ ∀ s : Nat, (s : Int) < sc 19 → 0 ≤ ai 252 s ∧ ai 252 s < 8
def pqO (V : Nat → Nat) (nv : Nat) (r : Bool × Nat × Po) (sc1 : Nat → Int) (ai1 : Nat → Nat → Int) (al1 : Nat → Nat → Int64) (q : Int) : Prop := sc1 17 = (r.2.1 : Int) ∧ ((r.1 = false ∧ q = 2 ∧ sc1 12 = 0) ∨ (r.1 = true ∧ sc1 12 = 1 ∧ ((q = 1 ∧ r.2.2 = []) ∨ (q = 0 ∧ r.2.2 ≠ [])) ∧ qL V nv ai1 al1 67 r.2.2 ∧ gk nv r.2.2))
def b5I (V : Nat → Nat) (nv : Nat) (ai ai1 : Nat → Nat → Int) (al al1 : Nat → Nat → Int64) (f : Po) (x : Int) : Prop := ∃ aiC, cpQ V nv ai aiC al al1 69 f ∧ (∀ a, a ≠ 261 → ai1 a = aiC a) ∧ ∀ j : Nat, (j : Int) < x → ai1 261 j = 58 + (j : Int)
section PQ
variable {fr : Nat → Bool} {V : Nat → Nat} {nv m i a : Nat} {S : Nat → Po × Nat × Nat} {r : Bool × Nat × Po} {sc sc1 sc2 sc3 sc4 sc5 sc6 : Nat → Int} {ai ai1 ai2 ai3 : Nat → Nat → Int} {al al1 al2 : Nat → Nat → Int64} {az az1 : Nat → Nat → Int32} {f l : Po} {x v w z q : Int} {y : Int64}
theorem b5_0 (h : cpQ V nv ai ai1 al al1 69 f) : b5I V nv ai ai1 al al1 f 0 := ⟨ai1, h, fun _ _ => rfl, fun j hj => by omega⟩
theorem b5_s {k : Nat} (h : b5I V nv ai ai1 al al1 f x) (h0 : 0 ≤ x) (hk : k = x.toNat) (hv : v = 58 + x) (e : ai2 = u2 ai1 261 k v) : b5I V nv ai ai2 al al1 f (x + 1) := by
  obtain ⟨aiC, h1, h2, h3⟩ := h
  refine ⟨aiC, h1, fun a ha => by rw [e, u2_af ha]; exact h2 a ha, fun j hj => ?_⟩
  rw [e]
  by_cases c : j = k
  · rw [c, u2_s, hv]; omega
  · rw [u2_o c]; exact h3 j (by omega)
theorem b5_a (h : b5I V nv ai ai1 al al1 f x) : aK ai ai1 al al1 az az := by
  obtain ⟨aiC, h1, h2, _⟩ := h
  exact aK_tr (aK_cp h1 (by omega)) (aK_fb h2)
theorem b5_q (h : b5I V nv ai ai1 al al1 f x) : qL V nv ai1 al1 69 f := by
  obtain ⟨aiC, h1, h2, _⟩ := h
  exact qL_cg h1.2.2 (by rw [h2 242 (by decide)]) fun _ _ => ⟨rfl, rfl⟩
theorem b5_b (h : b5I V nv ai ai1 al al1 f x) (hK : tmok ai) (hx : x = (m : Int)) (hm : msQ fr V nv sc ai al m S) : bsQ fr V nv ai1 al1 m S := by
  obtain ⟨aiC, h1, h2, h3⟩ := h
  intro j hj
  have hm8 := hm.1.2
  have e := h3 j (by omega)
  obtain ⟨⟨g1, g2⟩, g3, g4⟩ := hm.2 j hj
  refine ⟨by omega, ⟨?_, g2⟩, g3, g4⟩
  rw [e, show (58 + (j : Int)).toNat = 58 + j by omega]
  have h60 := (hK.1 (58 + j)).2
  refine qL_cg g1 (by rw [h2 242 (by decide), h1.1, u2_o (by omega)]) fun t ht => ⟨h1.2.1.2 244 _ (by omega), h1.2.1.2 243 _ (by omega)⟩
theorem b5_G (h : b5I V nv ai ai1 al al1 f x) (hG : tbG V nv sc ai al az []) (e : sc1 38 = sc 38) : tbG V nv sc1 ai1 al1 az [] := by
  obtain ⟨aiC, h1, h2, _⟩ := h
  refine ⟨⟨?_, e.trans hG.1.2⟩, hG.2.1, fun t x e => by cases e⟩
  have hb := hG.1.1
  unfold tb at hb ⊢
  rw [e, h2 260 (by decide), h1.1, u2_af (by decide)]
  exact hb
theorem pq_no (ho : rdR V nv r sc sc1 ai ai1 al al1 az az1 q) (hq : q = 0) (e1 : sc2 = u1 sc1 17 v) (hv : v = sc1 41) (e2 : sc3 = u1 sc2 12 w) (hw : w = q) : pqO V nv r sc3 ai1 al1 2 := by
  refine ⟨by rw [e2, u1_o (by decide), e1, u1_s, hv]; exact ho.1.2.2, Or.inl ⟨?_, rfl, by rw [e2, u1_s, hw, hq]⟩⟩
  cases e9 : r.1 with
  | false => rfl
  | true =>
    have := ho.1.2.1.mpr e9
    omega
theorem pq_0 (ho : rdR V nv r sc sc1 ai ai1 al al1 az az1 q) (hr : r.2.1 ≤ 200) (hk : q = 1 → kpI sc1 ai1 (sc1 41)) (hq : q = 1) (e1 : sc2 = u1 sc1 17 v) (hv : v = sc1 41) (e2 : sc3 = u1 sc2 12 w) (hw : w = q) (hc : cpQ V nv ai1 ai2 al1 al2 67 r.2.2) (e3 : sc4 = u1 sc3 18 1) (e4 : sc5 = u1 sc4 19 z) (hz : z = sc4 27) (e5 : sc6 = u1 sc5 25 x) (hx : x = sc5 28) : pvQ V nv r sc6 ai2 al2 := by
  obtain ⟨k1, k2, k3⟩ := hk hq
  have h41 := ho.1.2.2
  have s19 : sc6 19 = sc1 27 := by rw [e5, u1_o (by decide), e4, u1_s, hz, e3, u1_o (by decide), e2, u1_o (by decide), e1, u1_o (by decide)]
  have s25 : sc6 25 = sc1 28 := by rw [e5, u1_s, hx, e4, u1_o (by decide), e3, u1_o (by decide), e2, u1_o (by decide), e1, u1_o (by decide)]
  have s17 : sc6 17 = sc1 41 := by rw [e5, u1_o (by decide), e4, u1_o (by decide), e3, u1_o (by decide), e2, u1_o (by decide), e1, u1_s, hv]
  have s12 : sc6 12 = 1 := by rw [e5, u1_o (by decide), e4, u1_o (by decide), e3, u1_o (by decide), e2, u1_s, hw, hq]
  refine ⟨⟨by omega, s12⟩, ho.1.2.1.mp hq, ⟨hc.2.2, (ho.2.1 hq).2⟩, by omega, by omega, fun s hs => ?_⟩
  have e : ai2 252 = ai1 252 := by rw [hc.1, u2_af (by decide)]
  rw [e]
  exact k3 s (by omega)
theorem pq_a {k : Nat} (h : pvQ V nv r sc ai al) (h1 : a ≠ 242) (h2 : a ≠ 252) (e : ai1 = u2 ai a k v) : pvQ V nv r sc ai1 al := by
  obtain ⟨g1, g2, g3, g4, g5, g6⟩ := h
  exact ⟨g1, g2, ⟨qL_cg g3.1 (by rw [e, u2_af (Ne.symm h1)]) fun _ _ => ⟨rfl, rfl⟩, g3.2⟩, g4, g5, fun s hs => by rw [e, u2_af (Ne.symm h2)]; exact g6 s hs⟩
theorem pq_l {k : Nat} (h : pvQ V nv r sc ai al) (h1 : a ≠ 243) (h2 : a ≠ 244) (e : al1 = u2 al a k y) : pvQ V nv r sc ai al1 := by
  obtain ⟨g1, g2, g3, g4⟩ := h
  exact ⟨g1, g2, ⟨qL_cg g3.1 rfl fun t _ => ⟨by rw [e, u2_af (Ne.symm h2)], by rw [e, u2_af (Ne.symm h1)]⟩, g3.2⟩, g4⟩
theorem pq_e (h : pvQ V nv r sc ai al) (hq : (q = 1 ∧ ai 242 67 = 0) ∨ (q = 0 ∧ ai 242 67 ≠ 0)) : pqO V nv r sc ai al q := by
  obtain ⟨g1, g2, g3, _⟩ := h
  refine ⟨g1.1, Or.inr ⟨g2, g1.2, ?_, g3⟩⟩
  have h1 := g3.1.1
  rcases hq with ⟨c1, c2⟩ | ⟨c1, c2⟩
  · exact Or.inl ⟨c1, List.eq_nil_of_length_eq_zero (by omega)⟩
  · exact Or.inr ⟨c1, fun z => by rw [z] at h1; exact c2 h1⟩
end PQ
