theorem pr5_tm {V : Nat → Int} {nv n m n1 m1 q q2 t t2 : Int} {K F K1 F1 K' C' : Nat → Int64} {O N : List (Int64 × Int64)} {w : Int32} {v : Int64} (h : pr5 V nv n K F m O) (hO : onto V nv) (h0 : 0 ≤ nv ∧ nv ≤ 8) (hn : 0 ≤ n ∧ n ≤ 60) (hw : val nv.toNat w) (hv : v.toInt ≠ 0) (ha : adr n K F (kof V w nv.toNat) v q n1 K1 F1 t) (hl : O = ls (fun j => (K' j, C' j)) m.toNat) (hf : fnd K' m (kof idv w 8) t2) (hr : rtr O K' C' m (kof idv w 8) v q2 m1 N t2) : q = q2 ∧ pr5 V nv n1 K1 F1 m1 N := by
  have hm : m = n := h.1
  have hs := h.2.2.1
  rcases ha with ⟨b1, b2, b3, b4, b5⟩ | ⟨b0, bt, hcs⟩
  · rcases hr with ⟨r1, r2, r3, _⟩ | ⟨_, r2, _⟩ | ⟨_, _, r3, _⟩ | ⟨_, _, r3, _⟩ | ⟨_, _, r3, _⟩
    · subst b2; subst b3; subst b4; subst r2; subst r3
      exact ⟨by omega, h⟩
    · exact absurd r2 hv
    · exact absurd r3 b5
    · exact absurd r3 b5
    · exact absurd r3 b5
  · have htk : t2 < m → (t < n ∧ K t.toNat = kof V w nv.toNat) ∧ F t.toNat = C' t2.toNat := fun z => by
      have h1 := hf.1
      obtain ⟨j, hj, e1, e2⟩ := pr5_c2 h hO h0 hl (i := t2.toNat) (by omega) (hf.2.2 z)
      obtain ⟨g1, g2, g3⟩ := adt_k bt hs hj e1
      exact ⟨⟨g1, g2⟩, by rw [← g3]; exact e2⟩
    have hkt : (t < n ∧ K t.toNat = kof V w nv.toNat) → t2 < m := fun z => by
      have h1 := bt.1
      obtain ⟨i, hi, e1, _⟩ := pr5_c1 h hO h0 hw hl (j := t.toNat) (by omega) z.2
      exact fnd_k hf hi e1
    have h1 := bt.1
    rcases hcs with ⟨c1, c2, c3, c4, c5⟩ | ⟨c1, c2, c3, c4, c5, c6, c7⟩ | ⟨c1, c2, c3, c4, c5, c6, c7⟩ | ⟨c1, c2, c3, c4, c5, c6⟩
    · rcases hr with ⟨r1, r2, r3, _⟩ | ⟨_, r2, _⟩ | ⟨_, _, _, r4, r5, r6, _⟩ | ⟨_, _, _, r4, r5, _⟩ | ⟨_, _, _, r4, r5, _⟩
      · subst c2; subst c3; subst c4; subst r2; subst r3
        exact ⟨by omega, h⟩
      · exact absurd r2 hv
      · exfalso
        rcases c5 with ⟨z, _⟩ | ⟨_, z | z⟩
        · exact r4 (hkt z)
        · exact z r5
        · omega
      · exfalso
        have z := htk r4
        rcases c5 with ⟨_, y⟩ | ⟨y, _⟩
        · rw [z.2] at y; exact y r5
        · exact y z.1
      · exfalso
        have z := htk r4
        rcases c5 with ⟨_, y⟩ | ⟨y, _⟩
        · rw [z.2] at y; exact y r5
        · exact y z.1
    · rcases hr with ⟨_, _, _, r4⟩ | ⟨_, r2, _⟩ | ⟨r1, _, _, r4, r5, r6, r7, r8⟩ | ⟨_, _, _, r4, _⟩ | ⟨_, _, _, r4, _⟩
      · exfalso
        rcases r4 with z | ⟨z, _⟩ | ⟨_, z | z⟩
        · exact z b0
        · exact c2 (htk z).1
        · exact z c3
        · omega
      · exact absurd r2 hv
      · subst c5; subst r7
        exact ⟨by omega, pr5_put h hO h0 hn.1 hw bt c2 c6 c7 r8⟩
      · exact absurd (htk r4).1 c2
      · exact absurd (htk r4).1 c2
    · have z := hkt c2
      have y := (htk z).2
      rcases hr with ⟨_, _, _, r4⟩ | ⟨_, r2, _⟩ | ⟨_, _, _, r4, _⟩ | ⟨_, _, _, _, _, r6, _⟩ | ⟨r1, _, _, _, _, _, r7, R, r8, r9⟩
      · exfalso
        rcases r4 with x | ⟨_, x⟩ | ⟨x, _⟩
        · exact x b0
        · rw [← y] at x; exact x c3
        · exact x z
      · exact absurd r2 hv
      · exact absurd z r4
      · exfalso
        rw [← y] at r6
        exact c4 r6
      · subst c5; subst c6; subst r7
        refine ⟨by omega, pr5_upd h hO h0 hw (by omega) c2.2 y (by rw [← y]; exact c7) r8 r9⟩
    · have z := hkt c2
      have y := (htk z).2
      rcases hr with ⟨_, _, _, r4⟩ | ⟨_, r2, _⟩ | ⟨_, _, _, r4, _⟩ | ⟨r1, _, _, _, _, _, r7, r8⟩ | ⟨_, _, _, _, _, r6, _⟩
      · exfalso
        rcases r4 with x | ⟨_, x⟩ | ⟨x, _⟩
        · exact x b0
        · rw [← y] at x
          apply x
          unfold sr
          omega
        · exact x z
      · exact absurd r2 hv
      · exact absurd z r4
      · subst c4; subst r7
        exact ⟨by omega, pr5_del h hO h0 hw (by omega) c2.2 y c5 (G := vp_updL F t.toNat (F t.toNat + v)) (fun j hj => up_o hj) c6 r8⟩
      · exfalso
        rw [← y] at r6
        exact r6 c3
