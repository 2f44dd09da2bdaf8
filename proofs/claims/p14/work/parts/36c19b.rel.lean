/-! Both sides hold the same sums. -/
def rel5 (n p : Int) (u : D5u) (w : D5w) : Prop := (∀ i, i < 16 → pr5 u.1 n (u.2.1 i) (u.2.2.1 i) (u.2.2.2 i) (w.1 i) (w.2 i)) ∧ ∀ i : Nat, i < 16 → p ≤ (i : Int) → w.1 i = 0
section R5
variable {n p n1 p1 q q2 i1 i3 : Int} {u ua : D5u} {w wa : D5w} {v : Int64}
theorem pr5_pm {V : Nat → Int} {nv n m : Int} {K F : Nat → Int64} {O N : List (Int64 × Int64)} (h : pr5 V nv n K F m O) (hN : N.Perm O) : pr5 V nv n K F m N := ⟨h.1, h.2.1, h.2.2.1, fun x hx => h.2.2.2.1 x (hN.subset hx), h.2.2.2.2.trans (hN.map rwd).symm⟩
theorem rel_p (h : rel5 n p u w) (e : p ≤ p1) : rel5 n p1 u w := ⟨h.1, fun i hi h2 => h.2 i hi (by omega)⟩
/-- variable -/
theorem rel_nv (h : rel5 n p u w) (hO : oU n u) (h0 : 0 ≤ n ∧ n ≤ 8) (e2 : ua.2 = u.2) (hc : (n = 8 ∧ q = -1 ∧ n1 = n ∧ ua.1 = u.1) ∨ (n < 8 ∧ q = n ∧ n1 = n + 1 ∧ ua.1 = u1 u.1 n.toNat n)) : rel5 n1 p ua w := by
  refine ⟨fun i hi => ?_, h.2⟩
  rw [e2]
  rcases hc with ⟨_, _, c3, c4⟩ | ⟨c1, _, c3, c4⟩
  · rw [c3, c4]; exact h.1 i hi
  · rw [c3, c4]; exact pr5_nv (h.1 i hi) hO.1 (by omega) (hO.2 i hi).1.1
/-- order -/
theorem rel_mv (h : rel5 n p u w) (hO : oU n u) (hO1 : oU n ua) (h0 : 0 ≤ n ∧ n ≤ 8) (e1 : ua.2.1 = u.2.1) (hc : ua = u ∨ mv2 u.1 ua.1 n p u.2.1 u.2.2.1 u.2.2.2 ua.2.2.1 ua.2.2.2 p) (e2 : ∀ i, i < 16 → wa.1 i = w.1 i ∧ (wa.2 i).Perm (w.2 i)) : rel5 n p ua wa := by
  refine ⟨fun i hi => ?_, fun i hi h2 => ((e2 i hi).1).trans (h.2 i hi h2)⟩
  have e3 := e2 i hi
  rw [e1, e3.1]
  rcases hc with c | c
  · rw [c]; exact pr5_pm (h.1 i hi) e3.2
  · have c1 := c i
    by_cases g : (i : Int) < p
    · have c2 := c1.1 g
      exact pr5_mv (h.1 i hi) hO.1 hO1.1 h0 (hO.2 i hi).1.1 c2.1 c2.2 e3.2
    · have c2 := h.2 i hi (by omega)
      have c3 := (h.1 i hi).1
      have c4 : u.2.1 i = 0 := by omega
      have h9 := h.1 i hi
      rw [c4] at h9 ⊢
      exact pr5_mv h9 hO.1 hO1.1 h0 (by decide) (List.Perm.refl _) (fun j hj => by omega) e3.2
/-- polynomial -/
theorem rel_pl (h : rel5 n p u w) (h0 : 0 ≤ p ∧ p ≤ 16) (hp : (p1 = p ∧ p = 16) ∨ (p1 = p + 1 ∧ p < 16)) (e : (p = 16 ∧ ∀ i, i < 16 → wa.1 i = w.1 i ∧ wa.2 i = w.2 i) ∨ (p ≠ 16 ∧ wa.1 p.toNat = 0 ∧ wa.2 p.toNat = [] ∧ ∀ i, i < 16 → i ≠ p.toNat → wa.1 i = w.1 i ∧ wa.2 i = w.2 i)) : rel5 n p1 u wa := by
  have key : ∀ i, i < 16 → wa.1 i = w.1 i ∧ pr5 u.1 n (u.2.1 i) (u.2.2.1 i) (u.2.2.2 i) (wa.1 i) (wa.2 i) := fun i hi => by
    have h9 := h.1 i hi
    rcases e with ⟨_, e⟩ | ⟨e0, e1, e2, e⟩
    · rw [(e i hi).1, (e i hi).2]; exact ⟨rfl, h9⟩
    · by_cases g : i = p.toNat
      · have z := h.2 i hi (by omega)
        have z2 := h9.2.2.2.2.length_eq
        have z3 := h9.1
        have z4 : w.2 i = [] := by
          rw [List.length_map, List.length_map, ls_len] at z2
          exact List.eq_nil_of_length_eq_zero (by omega)
        rw [z, z4] at h9
        rw [g] at h9 z ⊢
        rw [e1, e2]
        exact ⟨z.symm, h9⟩
      · rw [(e i hi g).1, (e i hi g).2]; exact ⟨rfl, h9⟩
  refine ⟨fun i hi => (key i hi).2, fun i hi h2 => ?_⟩
  rw [(key i hi).1]
  exact h.2 i hi (by omega)
/-- what term does to the class's polynomials -/
def uS (u : D5u) (i : Nat) (m : Int) (K F : Nat → Int64) : D5u := (u.1, fun j => if j = i then m else u.2.1 j, fun j => if j = i then K else u.2.2.1 j, fun j => if j = i then F else u.2.2.2 j)
def tY (n p : Int) (u ua : D5u) (i1 : Int) (v : Int64) (i3 q : Int) : Prop :=
  (ua = u ∧ ((q = 0 ∧ (¬ (0 ≤ i1 ∧ i1 < p) ∨ ¬ val n.toNat (vz i3))) ∨ (q = 1 ∧ (0 ≤ i1 ∧ i1 < p) ∧ val n.toNat (vz i3) ∧ v.toInt = 0))) ∨
  ((0 ≤ i1 ∧ i1 < p) ∧ val n.toNat (vz i3) ∧ v.toInt ≠ 0 ∧ ∃ (m : Int) (K F : Nat → Int64) (t : Int), ua = uS u i1.toNat m K F ∧ adr (u.2.1 i1.toNat) (u.2.2.1 i1.toNat) (u.2.2.2 i1.toNat) (kof u.1 (vz i3) n.toNat) v q m K F t)
def tZ (n p : Int) (w wa : D5w) (i1 : Int) (v : Int64) (i3 q : Int) : Prop :=
  ((∀ i, i < 16 → wa.1 i = w.1 i ∧ wa.2 i = w.2 i) ∧ q = 0 ∧ (¬ (0 ≤ i1 ∧ i1 < p) ∨ ¬ val n.toNat (vz i3))) ∨
  ((0 ≤ i1 ∧ i1 < p) ∧ val n.toNat (vz i3) ∧ (∀ i, i < 16 → i ≠ i1.toNat → wa.1 i = w.1 i ∧ wa.2 i = w.2 i) ∧ ∃ (K C : Nat → Int64) (t : Int), w.2 i1.toNat = ls (fun j => (K j, C j)) (w.1 i1.toNat).toNat ∧ fnd K (w.1 i1.toNat) (kof idv (vz i3) 8) t ∧ rtr (w.2 i1.toNat) K C (w.1 i1.toNat) (kof idv (vz i3) 8) v q (wa.1 i1.toNat) (wa.2 i1.toNat) t)
theorem rtr_0 {O N : List (Int64 × Int64)} {K C : Nat → Int64} {m m1 t : Int} {k : Int64} (h : rtr O K C m k v q m1 N t) (hv : v.toInt = 0) (ht : 0 ≤ t) (hC : ∀ j : Nat, (j : Int) < m → gl (C j)) : q = 1 ∧ m1 = m ∧ N = O := by
  have v0 : v = 0 := Int64.toInt_inj.mp (by rw [hv]; rfl)
  rcases h with ⟨_, _, _, r⟩ | ⟨r1, _, r3, r4⟩ | ⟨_, r, _⟩ | ⟨_, r, _⟩ | ⟨_, r, _⟩
  · exfalso
    rcases r with r | ⟨r1, r2⟩ | ⟨_, r | ⟨r, _⟩⟩
    · exact r ⟨by omega, by omega⟩
    · have g := hC t.toNat (by omega)
      apply r2
      rw [v0, Int64.add_zero]
      exact ⟨g.2.1, g.2.2⟩
    · exact r ⟨by omega, by omega⟩
    · exact r hv
  · exact ⟨r1, r3, r4⟩
  · exact absurd hv r
  · exact absurd hv r
  · exact absurd hv r
theorem rel_tm (h : rel5 n p u w) (hO : oU n u) (h0 : 0 ≤ n ∧ n ≤ 8) (hp : 0 ≤ p ∧ p ≤ 16) (hx : tY n p u ua i1 v i3 q) (hy : tZ n p w wa i1 v i3 q2) : q = q2 ∧ rel5 n p ua wa := by
  have tr : ∀ (i : Nat), i < 16 → wa.1 i = w.1 i ∧ wa.2 i = w.2 i → pr5 u.1 n (u.2.1 i) (u.2.2.1 i) (u.2.2.2 i) (wa.1 i) (wa.2 i) := fun i hi e => by rw [e.1, e.2]; exact h.1 i hi
  rcases hx with ⟨rfl, hx⟩ | ⟨x1, x2, x3, m, K, F, t, rfl, ha⟩
  · rcases hy with ⟨y1, y2, y3⟩ | ⟨y1, y2, y3, K', C', t, y4, y5, y6⟩
    · rcases hx with ⟨x1, _⟩ | ⟨_, x2, x3, _⟩
      · exact ⟨by omega, fun i hi => tr i hi (y1 i hi), fun i hi h2 => ((y1 i hi).1).trans (h.2 i hi h2)⟩
      · exfalso
        rcases y3 with z | z
        · exact z x2
        · exact z x3
    · rcases hx with ⟨_, x2⟩ | ⟨x1, _, _, x4⟩
      · exfalso
        rcases x2 with z | z
        · exact z y1
        · exact z y2
      · have hi : i1.toNat < 16 := by omega
        obtain ⟨r1, r2, r3⟩ := rtr_0 y6 x4 y5.1.1 (fun j hj => by
          have h9 := h.1 i1.toNat hi
          have hm : (wrd ua.1 n) = wrd ua.1 n := rfl
          have g1 : (K' j, C' j) ∈ w.2 i1.toNat := by rw [y4]; exact (ls_mem _).mpr ⟨j, by omega, rfl⟩
          obtain ⟨x, hx1, hx2⟩ := List.mem_map.mp (h9.2.2.2.2.symm.subset (List.mem_map.mpr ⟨_, g1, rfl⟩))
          obtain ⟨k, hk1, hk2⟩ := (ls_mem _).mp hx1
          have g2 : x.2 = C' j := congrArg Prod.snd hx2
          have g3 : ua.2.2.2 i1.toNat k = x.2 := congrArg Prod.snd hk2
          rw [← g2, ← g3]
          exact (hO.2 i1.toNat hi).2 k (by omega))
        have y1' : ∀ i, i < 16 → wa.1 i = w.1 i ∧ wa.2 i = w.2 i := fun i hi => by
          by_cases g : i = i1.toNat
          · rw [g]; exact ⟨r2, r3⟩
          · exact y3 i hi g
        exact ⟨by omega, fun i hi => tr i hi (y1' i hi), fun i hi h2 => ((y1' i hi).1).trans (h.2 i hi h2)⟩
  · rcases hy with ⟨_, _, y3⟩ | ⟨y1, y2, y3, K', C', t2, y4, y5, y6⟩
    · exfalso
      rcases y3 with z | z
      · exact z x1
      · exact z x2
    · have hi : i1.toNat < 16 := by omega
      obtain ⟨r1, r2⟩ := pr5_tm (h.1 i1.toNat hi) hO.1 h0 (hO.2 i1.toNat hi).1 x2 x3 ha y4 y5 y6
      refine ⟨r1, fun i hi2 => ?_, fun i hi2 h2 => ?_⟩
      · show pr5 u.1 n (if i = i1.toNat then m else u.2.1 i) (if i = i1.toNat then K else u.2.2.1 i) (if i = i1.toNat then F else u.2.2.2 i) _ _
        by_cases g : i = i1.toNat
        · rw [if_pos g, if_pos g, if_pos g, g]; exact r2
        · rw [if_neg g, if_neg g, if_neg g]; exact tr i hi2 (y3 i hi2 g)
      · rw [(y3 i hi2 (by omega)).1]; exact h.2 i hi2 h2
end R5
