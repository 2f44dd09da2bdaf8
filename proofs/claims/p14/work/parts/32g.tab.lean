/-! The reference's table. -/
def hsI (k : Int64) : Int := ((k * Int64.ofNat 11400714819323198485).toUInt64 >>> ((vz 50).toInt64.toUInt64 &&& Int64.toUInt64 63)).toInt64.toInt32.toInt
theorem hs_ok (k : Int64) : ((k * Int64.ofNat 11400714819323198485).toUInt64 >>> ((vz 50).toInt64.toUInt64 &&& Int64.toUInt64 63)).toInt64.toInt32 = vz (hsI k) ∧ 0 ≤ hsI k ∧ hsI k < 16384 := by
  obtain ⟨q, h1, h2⟩ := sh_50 (k * Int64.ofNat 11400714819323198485)
  have e : hsI k = q := by
    unfold hsI
    rw [h1]
    exact vz_toInt (by omega)
  rw [e]
  exact ⟨h1, h2⟩
def tbE (V : Nat → Nat) (nv : Nat) (ai : Nat → Nat → Int) (al : Nat → Nat → Int64) (az : Nat → Nat → Int32) (t : Nat) (x : Nat × Int64) : Prop := (al 257 (ai 260 t).toNat = Int64.ofNat (tr V nv x.1) ∧ al 258 (ai 260 t).toNat = x.2 ∧ az 259 (ai 260 t).toNat ≠ 0) ∧ ∃ m : Nat, ai 260 t = (hsI (Int64.ofNat (tr V nv x.1)) + (m : Int)) % 16384 ∧ ∀ j : Nat, j < m → az 259 ((hsI (Int64.ofNat (tr V nv x.1)) + (j : Int)) % 16384).toNat ≠ 0
/-- the table holds the sum G -/
def tbG (V : Nat → Nat) (nv : Nat) (sc : Nat → Int) (ai : Nat → Nat → Int) (al : Nat → Nat → Int64) (az : Nat → Nat → Int32) (G : Po) : Prop := (tb sc ai az ∧ sc 38 = (G.length : Int)) ∧ (G.Pairwise (fun x y => x.1 ≠ y.1) ∧ ∀ x, x ∈ G → x.1 < 256 ^ nv) ∧ ∀ t x, G[t]? = some x → tbE V nv ai al az t x
def scI (al : Nat → Nat → Int64) (az : Nat → Nat → Int32) (k : Int64) (x : Int) : Prop := ∃ m : Nat, x = (hsI k + (m : Int)) % 16384 ∧ ∀ j : Nat, j < m → az 259 ((hsI k + (j : Int)) % 16384).toNat ≠ 0 ∧ al 257 ((hsI k + (j : Int)) % 16384).toNat ≠ k
def gaF (sc sc1 : Nat → Int) (ai ai1 : Nat → Nat → Int) (al al1 : Nat → Nat → Int64) (az az1 : Nat → Nat → Int32) : Prop := (∀ j, j ≠ 38 → sc1 j = sc j) ∧ (∀ a, a ≠ 260 → ai1 a = ai a) ∧ (∀ a, a ≠ 257 → a ≠ 258 → al1 a = al a) ∧ ∀ a, a ≠ 259 → az1 a = az a
def gaO (V : Nat → Nat) (nv : Nat) (G : Po) (N : Nat) (c : Int64) (sc sc1 : Nat → Int) (ai ai1 : Nat → Nat → Int) (al al1 : Nat → Nat → Int64) (az az1 : Nat → Nat → Int32) : Prop := (∃ G1, tbG V nv sc1 ai1 al1 az1 G1 ∧ (∀ M, cf G1 M = cf G M + if N = M then c else 0) ∧ G1.length ≤ G.length + 1) ∧ gaF sc sc1 ai ai1 al al1 az az1
section TG
variable {V : Nat → Nat} {nv N : Nat} {sc sc1 : Nat → Int} {ai ai1 : Nat → Nat → Int} {al al1 al2 al3 : Nat → Nat → Int64} {az az1 : Nat → Nat → Int32} {G : Po} {k c : Int64} {x : Int}
theorem scI_0 : scI al az k (hsI k) := ⟨0, by
  have := (hs_ok k).2
  show hsI k = (hsI k + 0) % 16384
  omega, fun j hj => absurd hj (Nat.not_lt_zero _)⟩
theorem scI_s {q : Int} (h : scI al az k x) (hx : 0 ≤ x ∧ x < 16384) (h1 : az 259 x.toNat = vz q) (hr : -2147483648 ≤ q ∧ q < 2147483648) (hq : q ≠ 0) (h2 : al 257 x.toNat ≠ k) : scI al az k ((x + 1) % 16384) := by
  obtain ⟨m, e, hm⟩ := h
  refine ⟨m + 1, by omega, fun j hj => ?_⟩
  by_cases z : j = m
  · subst z
    rw [← e]
    exact ⟨fun w => by rw [h1] at w; exact hq ((vz_inj hr (by decide)).mp w), h2⟩
  · exact hm j (by omega)
theorem of_tr {N M : Nat} (hV : pmV V nv) (hN : N < 256 ^ nv) (hM : M < 256 ^ nv) (e : Int64.ofNat (tr V nv N) = Int64.ofNat (tr V nv M)) : N = M := by
  have e3 := congrArg (fun z => z.toBitVec.toNat) e
  have e3 : (Int64.ofNat (tr V nv N)).toBitVec.toNat = (Int64.ofNat (tr V nv M)).toBitVec.toNat := e3
  rw [on_bv tr_64, on_bv tr_64] at e3
  exact tr_inj hV hN hM e3
/-- what is not found is not there -/
theorem sc_no (h : scI al az k x) (hG : tbG V nv sc ai al az G) (hk : k = Int64.ofNat (tr V nv N)) (he : az 259 x.toNat = 0) : ∀ y, y ∈ G → y.1 ≠ N := by
  intro y hy e
  obtain ⟨t, ht, ey⟩ := List.mem_iff_getElem.mp hy
  obtain ⟨⟨q1, q2, q3⟩, m, q4, q5⟩ := hG.2.2 t y (by rw [List.getElem?_eq_getElem ht, ey])
  obtain ⟨m0, e0, hm0⟩ := h
  rw [e, ← hk] at q1 q4 q5
  by_cases z : m < m0
  · have := (hm0 m z).2
    rw [← q4] at this
    exact this q1
  · by_cases z2 : m = m0
    · rw [z2, ← e0] at q4
      rw [q4] at q3
      exact q3 he
    · have := q5 m0 (by omega)
      rw [← e0] at this
      exact this he
theorem ga_new {v : Int32} (h : scI al az k x) (hG : tbG V nv sc ai al az G) (hx : 0 ≤ x ∧ x < 16384) (hl : sc 38 < 8000) (hN : N < 256 ^ nv) (hk : k = Int64.ofNat (tr V nv N)) (he : az 259 x.toNat = 0) (hv : v ≠ 0) (d1 : az1 = u2 az 259 x.toNat v) (d2 : al1 = u2 al 257 x.toNat k) (d3 : al2 = u2 al1 258 x.toNat (Int64.ofNat 0)) (d4 : ai1 = u2 ai 260 (sc 38).toNat x) (d5 : sc1 = u1 sc 38 (sc 38 + 1)) (d6 : al3 = u2 al2 258 x.toNat (al2 258 x.toNat + c)) : gaO V nv G N c sc sc1 ai ai1 al al3 az az1 := by
  have hno := sc_no h hG hk he
  obtain ⟨⟨h1, h2⟩, ⟨h3, h4⟩, h5⟩ := hG
  have hm : (sc 38).toNat = G.length := by omega
  have e258 : al3 258 x.toNat = c := by
    rw [d6, u2_s, d3, u2_s]
    have : Int64.ofNat 0 = 0 := rfl
    rw [this, Int64.zero_add]
  have e257 : al3 257 = al1 257 := by rw [d6, u2_af (by decide), d3, u2_af (by decide)]
  refine ⟨⟨G ++ [(N, c)], ⟨⟨tb_add h1 hl hx d1 d4 d5, by rw [d5, u1_s, List.length_append, h2]; rfl⟩, ⟨List.pairwise_append.mpr ⟨h3, List.pairwise_singleton _ _, fun a ha b hb => by rw [List.mem_singleton.mp hb]; exact hno a ha⟩, fun y hy => ?_⟩, fun t y hy => ?_⟩, fun M => by rw [cf_snoc], by rw [List.length_append]; exact Nat.le_refl _⟩, fun j hj => by rw [d5, u1_o hj], fun a ha => by rw [d4, u2_af ha], fun a a1 a2 => by rw [d6, u2_af a2, d3, u2_af a2, d2, u2_af a1], fun a ha => by rw [d1, u2_af ha]⟩
  · rcases List.mem_append.mp hy with q | q
    · exact h4 y q
    · rw [List.mem_singleton.mp q]; exact hN
  · by_cases ht : t < G.length
    · rw [List.getElem?_append_left ht] at hy
      obtain ⟨⟨q1, q2, q3⟩, m, q4, q5⟩ := h5 t y hy
      have hne : (ai 260 t).toNat ≠ x.toNat := fun z => by rw [z] at q3; exact q3 he
      have e1 : ai1 260 t = ai 260 t := by rw [d4, u2_o (by omega)]
      have hz : ∀ a, az 259 a ≠ 0 → az1 259 a ≠ 0 := fun a ha => by
        by_cases z : a = x.toNat
        · rw [z] at ha; exact absurd he ha
        · rw [d1, u2_o z]; exact ha
      refine ⟨⟨?_, ?_, ?_⟩, m, ?_, fun j hj => hz _ (q5 j hj)⟩
      · rw [e1, e257, d2, u2_o hne]; exact q1
      · rw [e1, d6, u2_o hne, d3, u2_o hne, d2, u2_af (by decide)]; exact q2
      · rw [e1]; exact hz _ q3
      · rw [e1]; exact q4
    · have ht2 : t = G.length := by
        by_cases z : t = G.length
        · exact z
        · rw [List.getElem?_eq_none (by rw [List.length_append]; show G.length + 1 ≤ t; omega)] at hy
          cases hy
      subst ht2
      rw [List.getElem?_append_right (Nat.le_refl _), Nat.sub_self] at hy
      have ey : (N, c) = y := Option.some.inj hy
      subst ey
      have e1 : ai1 260 G.length = x := by rw [d4, hm, u2_s]
      obtain ⟨m, q4, q5⟩ := h
      refine ⟨⟨?_, ?_, ?_⟩, m, ?_, fun j hj => ?_⟩
      · rw [e1, e257, d2, u2_s]; exact hk
      · rw [e1]; exact e258
      · rw [e1, d1, u2_s]; exact hv
      · rw [e1]
        show x = (hsI (Int64.ofNat (tr V nv N)) + (m : Int)) % 16384
        rw [← hk]; exact q4
      · show az1 259 ((hsI (Int64.ofNat (tr V nv N)) + (j : Int)) % 16384).toNat ≠ 0
        rw [← hk]
        have := (q5 j hj).1
        by_cases z : ((hsI k + (j : Int)) % 16384).toNat = x.toNat
        · rw [z] at this; exact absurd he this
        · rw [d1, u2_o z]; exact this
theorem cf_set : ∀ (G : Po) (t N : Nat) (v : Int64), G[t]? = some (N, v) → ∀ M, cf (G.set t (N, v + c)) M = cf G M + if N = M then c else 0 := by
  intro G
  induction G with
  | nil => intro t N v h; cases h
  | cons y G ih =>
    intro t N v h M
    cases t with
    | zero =>
      have e : y = (N, v) := Option.some.inj h
      subst e
      show (if N = M then v + c else 0) + cf G M = (if N = M then v else 0) + cf G M + _
      split
      · ac_rfl
      · rw [Int64.add_zero]
    | succ t =>
      show (if y.1 = M then y.2 else 0) + cf (G.set t (N, v + c)) M = (if y.1 = M then y.2 else 0) + cf G M + _
      rw [ih t N v h M, Int64.add_assoc]
theorem ga_old {q : Int} (hG : tbG V nv sc ai al az G) (hV : pmV V nv) (hx : 0 ≤ x ∧ x < 16384) (hN : N < 256 ^ nv) (hk : k = Int64.ofNat (tr V nv N)) (he : az 259 x.toNat = vz q) (hr : -2147483648 ≤ q ∧ q < 2147483648) (hq : q ≠ 0) (h7 : al 257 x.toNat = k) (d : al1 = u2 al 258 x.toNat (al 258 x.toNat + c)) : gaO V nv G N c sc sc ai ai al al1 az az := by
  obtain ⟨⟨h1, h2⟩, ⟨h3, h4⟩, h5⟩ := hG
  have hz : az 259 x.toNat ≠ 0 := fun w => by rw [he] at w; exact hq ((vz_inj hr (by decide)).mp w)
  obtain ⟨t, ht, et⟩ := h1.2.2 x.toNat hz
  have htl : t < G.length := by omega
  obtain ⟨y, ey⟩ : ∃ y, G[t]? = some y := ⟨G[t], List.getElem?_eq_getElem htl⟩
  have etx : (ai 260 t).toNat = x.toNat := by omega
  have hy : y ∈ G := List.mem_of_getElem? ey
  obtain ⟨⟨q1, q2, q3⟩, _⟩ := h5 t y ey
  rw [etx] at q1 q2
  have yN : y.1 = N := of_tr hV (h4 y hy) hN (by rw [← q1, ← hk]; exact h7)
  have ey2 : G[t]? = some (N, y.2) := by rw [ey, ← yN]
  have hkey : ∀ s z, (G.set t (N, y.2 + c))[s]? = some z → ∃ w, G[s]? = some w ∧ z.1 = w.1 ∧ z.2 = if s = t then w.2 + c else w.2 := fun s z hz => by
    rw [List.getElem?_set] at hz
    by_cases e : t = s
    · subst e
      rw [if_pos rfl, if_pos htl] at hz
      have := Option.some.inj hz
      subst this
      exact ⟨y, ey, yN.symm, by rw [if_pos rfl]⟩
    · rw [if_neg e] at hz
      exact ⟨z, hz, rfl, by rw [if_neg (Ne.symm e)]⟩
  have hlen : (G.set t (N, y.2 + c)).length = G.length := List.length_set
  refine ⟨⟨G.set t (N, y.2 + c), ⟨⟨h1, by rw [hlen]; exact h2⟩, ⟨?_, fun z hz => ?_⟩, fun s z hz => ?_⟩, cf_set G t N y.2 ey2, by rw [hlen]; exact Nat.le_succ _⟩, fun _ _ => rfl, fun _ _ => rfl, fun a a1 a2 => by rw [d, u2_af a2], fun _ _ => rfl⟩
  · have e1 : (G.set t (N, y.2 + c)).map Prod.fst = G.map Prod.fst := by
      apply List.ext_getElem?
      intro s
      rw [List.getElem?_map, List.getElem?_map]
      cases hs : (G.set t (N, y.2 + c))[s]? with
      | none =>
        rw [List.getElem?_eq_none (by have := List.getElem?_eq_none_iff.mp hs; omega)]
      | some z =>
        obtain ⟨w, w1, w2, _⟩ := hkey s z hs
        rw [w1]
        show some z.1 = some w.1
        rw [w2]
    have h6 : (G.map Prod.fst).Pairwise (fun a b => a ≠ b) := List.pairwise_map.mpr h3
    rw [← e1] at h6
    exact List.pairwise_map.mp h6
  · obtain ⟨s, hs, es⟩ := List.mem_iff_getElem.mp hz
    obtain ⟨w, w1, w2, _⟩ := hkey s z (by rw [List.getElem?_eq_getElem hs, es])
    rw [w2]
    exact h4 w (List.mem_of_getElem? w1)
  · obtain ⟨w, w1, w2, w3⟩ := hkey s z hz
    obtain ⟨⟨p1, p2, p3⟩, m, p4, p5⟩ := h5 s w w1
    refine ⟨⟨?_, ?_, p3⟩, m, by rw [w2]; exact p4, fun j hj => by rw [w2]; exact p5 j hj⟩
    · rw [d, u2_af (by decide), w2]; exact p1
    · by_cases e : s = t
      · subst e
        rw [w3, if_pos rfl, d, etx, u2_s, q2]
        rw [ey] at w1
        rw [Option.some.inj w1]
      · rw [w3, if_neg e]
        have hne : (ai 260 s).toNat ≠ x.toNat := fun z9 => by
          rw [z9, h7, hk] at p1
          have hw := List.mem_of_getElem? w1
          have e9 := of_tr hV hN (h4 w hw) p1
          have hsl : s < G.length := by
            by_cases z : s < G.length
            · exact z
            · rw [List.getElem?_eq_none (by omega)] at w1; cases w1
          have hpw := List.pairwise_iff_getElem.mp h3
          have ew : G[s] = w := Option.some.inj (by rw [← List.getElem?_eq_getElem hsl]; exact w1)
          have eyy : G[t] = y := Option.some.inj (by rw [← List.getElem?_eq_getElem htl]; exact ey)
          rcases Nat.lt_or_gt_of_ne e with g | g
          · have := hpw s t hsl htl g
            rw [ew, eyy] at this
            omega
          · have := hpw t s htl hsl g
            rw [ew, eyy] at this
            omega
        rw [d, u2_o hne]; exact p2
end TG
