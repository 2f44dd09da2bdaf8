/-! A step of the reference. -/
def rF (sc sc1 : Nat → Int) (ai ai1 : Nat → Nat → Int) (al al1 : Nat → Nat → Int64) (az az1 : Nat → Nat → Int32) : Prop := (∀ j, j ≠ 38 → sc1 j = sc j) ∧ ((∀ a, a ≠ 242 → a ≠ 260 → ai1 a = ai a) ∧ ∀ s, s ≠ 69 → s ≠ 70 → ai1 242 s = ai 242 s) ∧ ((∀ a, a ≠ 243 → a ≠ 244 → a ≠ 257 → a ≠ 258 → al1 a = al a) ∧ ∀ a j, a = 243 ∨ a = 244 → j < 4140 ∨ 4260 ≤ j → al1 a j = al a j) ∧ ∀ a, a ≠ 259 → az1 a = az a
section RS
variable {V : Nat → Nat} {nv i p d e : Nat} {sc sc1 sc2 : Nat → Int} {ai ai1 ai2 : Nat → Nat → Int} {al al1 al2 : Nat → Nat → Int64} {az az1 az2 : Nat → Nat → Int32} {f b l G : Po} {T : Nat → Int64}
theorem rF_0 : rF sc sc ai ai al al az az := ⟨fun _ _ => rfl, ⟨fun _ _ _ => rfl, fun _ _ _ => rfl⟩, ⟨fun _ _ _ _ _ => rfl, fun _ _ _ _ => rfl⟩, fun _ _ => rfl⟩
theorem rF_tr (h : rF sc sc1 ai ai1 al al1 az az1) (g : rF sc1 sc2 ai1 ai2 al1 al2 az1 az2) : rF sc sc2 ai ai2 al al2 az az2 := ⟨fun j hj => (g.1 j hj).trans (h.1 j hj), ⟨fun a a1 a2 => (g.2.1.1 a a1 a2).trans (h.2.1.1 a a1 a2), fun s s1 s2 => (g.2.1.2 s s1 s2).trans (h.2.1.2 s s1 s2)⟩, ⟨fun a a1 a2 a3 a4 => (g.2.2.1.1 a a1 a2 a3 a4).trans (h.2.2.1.1 a a1 a2 a3 a4), fun a j a1 a2 => (g.2.2.1.2 a j a1 a2).trans (h.2.2.1.2 a j a1 a2)⟩, fun a ha => (g.2.2.2 a ha).trans (h.2.2.2 a ha)⟩
theorem rF_ga (h : gaF sc sc1 ai ai1 al al1 az az1) : rF sc sc1 ai ai1 al al1 az az1 := ⟨h.1, ⟨fun a _ a2 => h.2.1 a a2, fun s _ _ => by rw [h.2.1 242 (by decide)]⟩, ⟨fun a _ _ a3 a4 => h.2.2.1 a a3 a4, fun a j ha _ => by rw [h.2.2.1 a (by omega) (by omega)]⟩, h.2.2.2⟩
theorem rF_ld (h : ldQ V nv ai ai1 al al1 l) : rF sc sc ai ai1 al al1 az az := ⟨fun _ _ => rfl, ⟨fun a a1 _ => by rw [h.2.1, u2_af a1], fun s _ s2 => by rw [h.2.1, u2_o s2]⟩, ⟨fun a a1 a2 _ _ => h.1.1 a a1 a2, fun a j _ hj => h.1.2 a j (by omega)⟩, fun _ _ => rfl⟩
theorem rF_se (h : seF V nv sc sc1 ai ai1 al al1 az az1 69) : rF sc sc1 ai ai1 al al1 az az1 := by
  obtain ⟨⟨h1, ⟨n, h2⟩, h3, h4⟩, _⟩ := h
  exact ⟨h1, ⟨fun a a1 _ => by rw [h2, u2_af a1], fun s s1 _ => by rw [h2, u2_o s1]⟩, ⟨fun a a1 a2 _ _ => h3.1 a a1 a2, fun a j _ hj => h3.2 a j (by omega)⟩, h4⟩
theorem rF_vR (h : rF sc sc1 ai ai1 al al1 az az1) : vR ai1 = vR ai := by unfold vR; rw [h.2.1.1 240 (by decide) (by decide)]
theorem rF_q (h : rF sc sc1 ai ai1 al al1 az az1) (hi : i < 69) (hL : qL V nv ai al i l) (h60 : ai 242 i ≤ 60) : qL V nv ai1 al1 i l := qL_cg hL (h.2.1.2 i (by omega) (by omega)) fun t ht => ⟨h.2.2.1.2 244 _ (Or.inr rfl) (by omega), h.2.2.1.2 243 _ (Or.inl rfl) (by omega)⟩
theorem ga_q (h : gaF sc sc1 ai ai1 al al1 az az1) (hL : qL V nv ai al i l) : qL V nv ai1 al1 i l := qL_cg hL (by rw [h.2.1 242 (by decide)]) fun t _ => ⟨by rw [h.2.2.1 244 (by decide) (by decide)], by rw [h.2.2.1 243 (by decide) (by decide)]⟩
theorem ld_q {l2 : Po} (h : ldQ V nv ai ai1 al al1 l2) (hi : i < 70) (hL : qL V nv ai al i l) (h60 : ai 242 i ≤ 60) : qL V nv ai1 al1 i l := qL_cg hL (by rw [h.2.1, u2_o (by omega)]) fun t ht => ⟨h.1.2 244 _ (by omega), h.1.2 243 _ (by omega)⟩
theorem ld_G {l2 : Po} (h : ldQ V nv ai ai1 al al1 l2) (hG : tbG V nv sc ai al az G) : tbG V nv sc ai1 al1 az G := by
  have e1 : ai1 260 = ai 260 := by rw [h.2.1, u2_af (by decide)]
  have e2 : al1 257 = al 257 := h.1.1 257 (by decide) (by decide)
  have e3 : al1 258 = al 258 := h.1.1 258 (by decide) (by decide)
  unfold tbG tb tbE
  rw [e1, e2, e3]
  exact hG
/-- digits of a lead -/
theorem ldL_dg {x : Nat × Int64} (hg : gk nv f) (hp : p < nv) (hn : nv ≤ 8) (hx : x ∈ ldL f p d) : (x.1 < 256 ^ nv ∧ ∀ q, q < nv → dgt x.1 q ≤ 15) ∧ dgt x.1 p = 0 := by
  obtain ⟨z, hz, rfl⟩ := List.mem_map.mp hx
  have h1 := List.mem_filter.mp hz
  have h2 : dgt z.1 p = d := by simpa using h1.2
  have h3 := gk_dg hg h1.1
  obtain ⟨_, g2, g3⟩ := dgt_sub h3.1 hp (Nat.le_of_eq h2.symm)
  refine ⟨⟨g2, fun q hq => ?_⟩, ?_⟩
  · show dgt (z.1 - d * 256 ^ p) q ≤ 15
    rw [g3 q hq]
    have := h3.2 q (by omega)
    have := h3.2 p (by omega)
    split <;> omega
  · show dgt (z.1 - d * 256 ^ p) p = 0
    rw [g3 p hp, if_pos rfl, h2, Nat.sub_self]
theorem kadd {X Y : Nat} (hX : X < 256 ^ nv) (hY : Y < 256 ^ nv) (dX : ∀ q, q < nv → dgt X q ≤ 15) (dY : ∀ q, q < nv → dgt Y q ≤ 15) : X + Y < 256 ^ nv ∧ tr V nv (X + Y) = tr V nv X + tr V nv Y := by
  obtain ⟨h1, h2⟩ := dgt_add hX hY fun q hq => by
    have := dX q hq
    have := dY q hq
    omega
  exact ⟨h1, tr_add h2⟩
theorem kup {X : Nat} (hV : pmV V nv) (hX : X < 256 ^ nv) (dX : ∀ q, q < nv → dgt X q ≤ 15) (h0 : dgt X p = 0) (hp : p < nv) (hd : d ≤ 15) : (X + d * 256 ^ p < 256 ^ nv ∧ ∀ q, q < nv → dgt (X + d * 256 ^ p) q ≤ 15) ∧ tr V nv (X + d * 256 ^ p) = tr V nv X + d * 256 ^ (V p) := by
  have h1 := dgt_one (d := d) (by omega) hp
  obtain ⟨h2, h3⟩ := dgt_add hX h1.1 fun q hq => by
    have := dX q hq
    rw [h1.2 q hq]
    split <;> omega
  refine ⟨⟨h2, fun q hq => ?_⟩, ?_⟩
  · rw [h3 q hq, h1.2 q hq]
    have := dX q hq
    split
    next z => rw [z, h0]; omega
    next => omega
  · rw [tr_add h3, tr_one hV hp (by omega)]
theorem dgP_15 (hg : gk nv f) (hp : p < 8) : dgP f p ≤ 15 := by
  have : ∀ (l : Po) (d : Nat), d ≤ 15 → (∀ x, x ∈ l → dgt x.1 p ≤ 15) → l.foldl (fun d x => if d < dgt x.1 p then dgt x.1 p else d) d ≤ 15 := by
    intro l
    induction l with
    | nil => intro d h _; exact h
    | cons x l ih =>
      intro d h q
      refine ih _ ?_ fun y hy => q y (List.mem_cons_of_mem _ hy)
      have := q x (List.mem_cons_self ..)
      show (if _ then _ else _) ≤ _
      split <;> omega
  exact this f 0 (by decide) fun x hx => (hg.2.1.2 x hx).2 p hp
def rs0 (V : Nat → Nat) (nv : Nat) (f L2 G : Po) (n : Int) (sc sc1 : Nat → Int) (ai ai1 : Nat → Nat → Int) (al al1 : Nat → Nat → Int64) (az az1 : Nat → Nat → Int32) : Prop := (tbG V nv sc1 ai1 al1 az1 G ∧ (G.length : Int) ≤ n) ∧ qL V nv ai1 al1 69 f ∧ qL V nv ai1 al1 70 L2 ∧ rF sc sc1 ai ai1 al al1 az az1
/-- the products of one term -/
def pm1 (x : Nat × Int64) (l : Po) : Po := l.map fun y => (x.1 + y.1, x.2 * y.2)
def pm2 (u : Nat) (x : Nat × Int64) (l : Po) : Po := l.map fun y => (x.1 + u + y.1, -x.2 * y.2)
def rsA (V : Nat → Nat) (nv : Nat) (f b : Po) (p e : Nat) (sc sc1 : Nat → Int) (ai ai1 : Nat → Nat → Int) (al al1 : Nat → Nat → Int64) (az az1 : Nat → Nat → Int32) (x5 : Int) : Prop := ∃ G, rs0 V nv f (ldL b p e) G (60 * x5) sc sc1 ai ai1 al al1 az az1 ∧ ∀ k, cf G k + cf (rpA (f.drop x5.toNat) b p e) k = cf (rpA f b p e) k
def rsA2 (V : Nat → Nat) (nv : Nat) (f b : Po) (p e : Nat) (sc sc1 : Nat → Int) (ai ai1 : Nat → Nat → Int) (al al1 : Nat → Nat → Int64) (az az1 : Nat → Nat → Int32) (x5 x6 : Int) : Prop := ∃ G, rs0 V nv f (ldL b p e) G (60 * x5 + x6) sc sc1 ai ai1 al al1 az az1 ∧ ∀ x, f.drop x5.toNat = x :: f.drop (x5 + 1).toNat → ∀ k, cf G k + (cf (pm1 x ((ldL b p e).drop x6.toNat)) k + cf (rpA (f.drop (x5 + 1).toNat) b p e) k) = cf (rpA f b p e) k
def rsB (V : Nat → Nat) (nv : Nat) (f b : Po) (p d e : Nat) (sc sc1 : Nat → Int) (ai ai1 : Nat → Nat → Int) (al al1 : Nat → Nat → Int64) (az az1 : Nat → Nat → Int32) (x7 : Int) : Prop := ∃ G, rs0 V nv f (ldL f p d) G (3600 + 60 * x7) sc sc1 ai ai1 al al1 az az1 ∧ ∀ k, cf G k + cf (((ldL f p d).drop x7.toNat).flatMap fun x => pm2 ((d - e) * 256 ^ p) x b) k = cf (rpA f b p e) k + cf (rpB f b p d e) k
def rsB2 (V : Nat → Nat) (nv : Nat) (f b : Po) (p d e : Nat) (sc sc1 : Nat → Int) (ai ai1 : Nat → Nat → Int) (al al1 : Nat → Nat → Int64) (az az1 : Nat → Nat → Int32) (x7 x8 : Int) : Prop := ∃ G, rs0 V nv f (ldL f p d) G (3600 + 60 * x7 + x8) sc sc1 ai ai1 al al1 az az1 ∧ ∀ x, (ldL f p d).drop x7.toNat = x :: (ldL f p d).drop (x7 + 1).toNat → ∀ k, cf G k + (cf (pm2 ((d - e) * 256 ^ p) x (b.drop x8.toNat)) k + cf (((ldL f p d).drop (x7 + 1).toNat).flatMap fun x => pm2 ((d - e) * 256 ^ p) x b) k) = cf (rpA f b p e) k + cf (rpB f b p d e) k
theorem rsA_0 (hG : tbG V nv sc ai al az []) (h : ldQ V nv ai ai1 al al1 (ldL b p e)) (hL : qL V nv ai al 69 f) (h60 : ai 242 69 ≤ 60) : rsA V nv f b p e sc sc ai ai1 al al1 az az 0 := ⟨[], ⟨⟨ld_G h hG, by show (0 : Int) ≤ 60 * 0; decide⟩, ld_q h (by decide) hL h60, h.2.2, rF_ld h⟩, fun k => by rw [cf_nil, Int64.zero_add]; rfl⟩
theorem rpA_c {x : Nat × Int64} {fs : Po} {k : Nat} : cf (rpA (x :: fs) b p e) k = cf (pm1 x (ldL b p e)) k + cf (rpA fs b p e) k := by
  unfold rpA
  rw [List.flatMap_cons, cf_app]
  rfl
theorem rsA_in {x5 : Int} (h : rsA V nv f b p e sc sc1 ai ai1 al al1 az az1 x5) : rsA2 V nv f b p e sc sc1 ai ai1 al al1 az az1 x5 0 := by
  obtain ⟨G, h1, h2⟩ := h
  refine ⟨G, by rw [Int.add_zero]; exact h1, fun x hx k => ?_⟩
  rw [← h2 k, hx, rpA_c]
  rfl
theorem rsA_out {x5 x6 : Int} (h : rsA2 V nv f b p e sc sc1 ai ai1 al al1 az az1 x5 x6) (h5 : 0 ≤ x5 ∧ x5 < ai1 242 69) (h6 : x6 = ai1 242 70) (h60 : x6 ≤ 60) : rsA V nv f b p e sc sc1 ai ai1 al al1 az az1 (x5 + 1) := by
  obtain ⟨G, h1, h2⟩ := h
  obtain ⟨x, q1, _⟩ := qx h1.2.1 h5
  refine ⟨G, ⟨⟨h1.1.1, by have := h1.1.2; omega⟩, h1.2⟩, fun k => ?_⟩
  have h3 := h2 x q1 k
  have := h1.2.2.1.1
  rw [List.drop_eq_nil_of_le (by omega)] at h3
  have h4 : cf G k + (0 + cf (rpA (f.drop (x5 + 1).toNat) b p e) k) = cf (rpA f b p e) k := h3
  rw [Int64.zero_add] at h4
  exact h4
theorem rsA_s {x5 x6 : Int} {x y : Nat × Int64} {c : Int64} (h1 : rs0 V nv f (ldL b p e) G (60 * x5 + x6) sc sc1 ai ai1 al al1 az az1) (h2 : ∀ x, f.drop x5.toNat = x :: f.drop (x5 + 1).toNat → ∀ k, cf G k + (cf (pm1 x ((ldL b p e).drop x6.toNat)) k + cf (rpA (f.drop (x5 + 1).toNat) b p e) k) = cf (rpA f b p e) k) (qx : f.drop x5.toNat = x :: f.drop (x5 + 1).toNat) (qy : (ldL b p e).drop x6.toNat = y :: (ldL b p e).drop (x6 + 1).toNat) (hc : c = x.2 * y.2) (hg : gaO V nv G (x.1 + y.1) c sc1 sc2 ai1 ai2 al1 al2 az1 az2) : rsA2 V nv f b p e sc sc2 ai ai2 al al2 az az2 x5 (x6 + 1) := by
  obtain ⟨⟨G1, g1, g2, g3⟩, g4⟩ := hg
  refine ⟨G1, ⟨⟨g1, by have := h1.1.2; omega⟩, ga_q g4 h1.2.1, ga_q g4 h1.2.2.1, rF_tr h1.2.2.2 (rF_ga g4)⟩, fun x' hx k => ?_⟩
  have ex : x = x' := by rw [qx] at hx; exact (List.cons.inj hx).1
  subst ex
  have h3 := h2 x qx k
  rw [qy] at h3
  have e1 : cf (pm1 x (y :: (ldL b p e).drop (x6 + 1).toNat)) k = (if x.1 + y.1 = k then x.2 * y.2 else 0) + cf (pm1 x ((ldL b p e).drop (x6 + 1).toNat)) k := rfl
  rw [← h3, g2 k, e1, hc]
  ac_rfl
theorem rsB_0 {x5 : Int} (h : rsA V nv f b p e sc sc1 ai ai1 al al1 az az1 x5) (hx : x5 = ai1 242 69) (h60 : x5 ≤ 60) (hl : ldQ V nv ai1 ai2 al1 al2 (ldL f p d)) : rsB V nv f b p d e sc sc1 ai ai2 al al2 az az1 0 := by
  obtain ⟨G, h1, h2⟩ := h
  refine ⟨G, ⟨⟨ld_G hl h1.1.1, by have := h1.1.2; omega⟩, ld_q hl (by decide) h1.2.1 (by omega), hl.2.2, rF_tr h1.2.2.2 (rF_ld hl)⟩, fun k => ?_⟩
  have h3 := h2 k
  have := h1.2.1.1
  rw [List.drop_eq_nil_of_le (by omega)] at h3
  have h4 : cf G k + 0 = cf (rpA f b p e) k := h3
  rw [Int64.add_zero] at h4
  rw [h4]
  rfl
theorem rsB_in {x7 : Int} (h : rsB V nv f b p d e sc sc1 ai ai1 al al1 az az1 x7) : rsB2 V nv f b p d e sc sc1 ai ai1 al al1 az az1 x7 0 := by
  obtain ⟨G, h1, h2⟩ := h
  refine ⟨G, by rw [Int.add_zero]; exact h1, fun x hx k => ?_⟩
  rw [← h2 k, hx, List.flatMap_cons, cf_app]
  rfl
theorem rsB_out {x7 x8 : Int} (h : rsB2 V nv f b p d e sc sc1 ai ai1 al al1 az az1 x7 x8) (h7 : 0 ≤ x7 ∧ x7 < ai1 242 70) (h8 : x8 = (b.length : Int)) (h60 : x8 ≤ 60) : rsB V nv f b p d e sc sc1 ai ai1 al al1 az az1 (x7 + 1) := by
  obtain ⟨G, h1, h2⟩ := h
  obtain ⟨x, q1, _⟩ := qx h1.2.2.1 h7
  refine ⟨G, ⟨⟨h1.1.1, by have := h1.1.2; omega⟩, h1.2⟩, fun k => ?_⟩
  have h3 := h2 x q1 k
  rw [List.drop_eq_nil_of_le (by omega)] at h3
  have h4 : cf G k + (0 + cf (((ldL f p d).drop (x7 + 1).toNat).flatMap fun x => pm2 ((d - e) * 256 ^ p) x b) k) = cf (rpA f b p e) k + cf (rpB f b p d e) k := h3
  rw [Int64.zero_add] at h4
  exact h4
theorem rsB_s {x7 x8 : Int} {x y : Nat × Int64} {c : Int64} (h1 : rs0 V nv f (ldL f p d) G (3600 + 60 * x7 + x8) sc sc1 ai ai1 al al1 az az1) (h2 : ∀ x, (ldL f p d).drop x7.toNat = x :: (ldL f p d).drop (x7 + 1).toNat → ∀ k, cf G k + (cf (pm2 ((d - e) * 256 ^ p) x (b.drop x8.toNat)) k + cf (((ldL f p d).drop (x7 + 1).toNat).flatMap fun x => pm2 ((d - e) * 256 ^ p) x b) k) = cf (rpA f b p e) k + cf (rpB f b p d e) k) (qx : (ldL f p d).drop x7.toNat = x :: (ldL f p d).drop (x7 + 1).toNat) (qy : b.drop x8.toNat = y :: b.drop (x8 + 1).toNat) (hc : c = -x.2 * y.2) (hg : gaO V nv G (x.1 + (d - e) * 256 ^ p + y.1) c sc1 sc2 ai1 ai2 al1 al2 az1 az2) : rsB2 V nv f b p d e sc sc2 ai ai2 al al2 az az2 x7 (x8 + 1) := by
  obtain ⟨⟨G1, g1, g2, g3⟩, g4⟩ := hg
  refine ⟨G1, ⟨⟨g1, by have := h1.1.2; omega⟩, ga_q g4 h1.2.1, ga_q g4 h1.2.2.1, rF_tr h1.2.2.2 (rF_ga g4)⟩, fun x' hx k => ?_⟩
  have ex : x = x' := by rw [qx] at hx; exact (List.cons.inj hx).1
  subst ex
  have h3 := h2 x qx k
  rw [qy] at h3
  have e1 : cf (pm2 ((d - e) * 256 ^ p) x (y :: b.drop (x8 + 1).toNat)) k = (if x.1 + (d - e) * 256 ^ p + y.1 = k then -x.2 * y.2 else 0) + cf (pm2 ((d - e) * 256 ^ p) x (b.drop (x8 + 1).toNat)) k := rfl
  rw [← h3, g2 k, e1, hc]
  ac_rfl
/-- what a step leaves -/
def rtO (V : Nat → Nat) (nv : Nat) (f b : Po) (p d e : Nat) (sc sc1 : Nat → Int) (ai ai1 : Nat → Nat → Int) (al al1 : Nat → Nat → Int64) (az az1 : Nat → Nat → Int32) (q : Int) : Prop := rF sc sc1 ai ai1 al al1 az az1 ∧ tbG V nv sc1 ai1 al1 az1 [] ∧ ((q = 0 ∧ stP f b p d e = none) ∨ (q = 1 ∧ ∃ g, stP f b p d e = some g ∧ qL V nv ai1 al1 69 g ∧ gk nv g))
theorem rt_e {x7 : Int} (h : rsB V nv f b p d e sc sc1 ai ai1 al al1 az az1 x7) (hx : x7 = ai1 242 70) (hf : gk nv f) (hb : gk nv b) (hp : p < nv) (hde : e ≤ d) : ∃ G, tbG V nv sc1 ai1 al1 az1 G ∧ (∀ k, cf G k = cf (prC f b p d e) k) ∧ rF sc sc1 ai ai1 al al1 az az1 := by
  obtain ⟨G, h1, h2⟩ := h
  refine ⟨G, h1.1.1, fun k => ?_, h1.2.2.2⟩
  have h3 := h2 k
  have := h1.2.2.1.1
  rw [List.drop_eq_nil_of_le (by omega)] at h3
  have h4 : cf G k + 0 = cf (rpA f b p e) k + cf (rpB f b p d e) k := h3
  rw [Int64.add_zero, rp_prC hf hb hp hde] at h4
  exact h4
theorem rt_f {q : Int} (hr : rF sc sc1 ai ai1 al al1 az az1) (hc : ∀ k, cf G k = cf (prC f b p d e) k) (hO : seO V nv G ai2 al2 69 q) (hF : seF V nv sc1 sc2 ai1 ai2 al1 al2 az1 az2 69) : rtO V nv f b p d e sc sc2 ai ai2 al al2 az az2 q := by
  refine ⟨rF_tr hr (rF_se hF), hF.2, ?_⟩
  rcases hO with ⟨q1, l, l1, l2, l3, l4, l5⟩ | ⟨q0, l, l1, l2, l3⟩
  · exact Or.inr ⟨q1, l, stP_some ⟨l1, fun k => (l3 k).trans (hc k)⟩ l2, l5, l1, l2, l4⟩
  · exact Or.inl ⟨q0, stP_none ⟨l1, fun k => (l3 k).trans (hc k)⟩ l2⟩
end RS
theorem st_i69 {x : Int} (hx : 0 ≤ x) : (4140 + x).toNat = 60 * 69 + x.toNat := by omega
theorem st_i70 {x : Int} (hx : 0 ≤ x) : (4200 + x).toNat = 60 * 70 + x.toNat := by omega
theorem st_up {V : Nat → Nat} {f : Po} {p e : Nat} {x4 i2 i3 : Int} (h4 : x4 = (dgP f p : Int)) (h3 : i3 = (e : Int)) (hde : e ≤ dgP f p) (h2 : i2 = (V p : Int)) (hV : V p < 8) : (vz (x4 - i3)).toInt64 <<< ((vz (8 * i2)).toInt64 &&& 63) = Int64.ofNat ((dgP f p - e) * 256 ^ (V p)) := by
  have := dgP_lt (f := f) (p := p)
  rw [h4, h3, h2, show ((dgP f p : Int) - (e : Int)) = ((dgP f p - e : Nat) : Int) by omega]
  exact lead_e (by omega) hV
