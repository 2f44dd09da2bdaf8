section R2
variable {fr : Nat → Bool} {nv c s r : Nat} {R : Nat → Po} {B : List Nat}
theorem rd_fls {nv : Nat} {t : Bool × Nat × Po} {Z : Nat → Nat → Int} {al : Nat → Nat → Int64} {q : Int} (h : rdO nv t Z al q) (hq : q ≠ 1) : t.1 = false := by
  cases e : t.1 with
  | false => rfl
  | true => exact absurd (h.2.1.mpr e) hq
theorem rs_2 (h : (rdP (mbP fr nv R B) (min 200 (1000 - s)) B.length (R r)).1 = false) : rsP fr nv B R c s r = (2, R, c, s + (rdP (mbP fr nv R B) (min 200 (1000 - s)) B.length (R r)).2.1, none) := by
  unfold rsP
  rw [if_pos h]
theorem rs_3 (h : (rdP (mbP fr nv R B) (min 200 (1000 - s)) B.length (R r)).1 = true) (h2 : prP (rdP (mbP fr nv R B) (min 200 (1000 - s)) B.length (R r)).2.2 = [] ∨ ∃ j, j < c ∧ R j = prP (rdP (mbP fr nv R B) (min 200 (1000 - s)) B.length (R r)).2.2) : rsP fr nv B R c s r = (3, R, c, s + (rdP (mbP fr nv R B) (min 200 (1000 - s)) B.length (R r)).2.1, none) := by
  rw [← any_iff] at h2
  unfold rsP
  rw [if_neg (by rw [h]; decide)]
  show (if _ then _ else _) = _
  rw [if_pos h2]
theorem rs_x (h : (rdP (mbP fr nv R B) (min 200 (1000 - s)) B.length (R r)).1 = true) (h2 : ¬ (prP (rdP (mbP fr nv R B) (min 200 (1000 - s)) B.length (R r)).2.2 = [] ∨ ∃ j, j < c ∧ R j = prP (rdP (mbP fr nv R B) (min 200 (1000 - s)) B.length (R r)).2.2)) : rsP fr nv B R c s r = if plP fr nv (prP (rdP (mbP fr nv R B) (min 200 (1000 - s)) B.length (R r)).2.2) = -1 then (0, R, c, s + (rdP (mbP fr nv R B) (min 200 (1000 - s)) B.length (R r)).2.1, some (prP (rdP (mbP fr nv R B) (min 200 (1000 - s)) B.length (R r)).2.2)) else
  if 40 ≤ c then (2, R, c, s + (rdP (mbP fr nv R B) (min 200 (1000 - s)) B.length (R r)).2.1, none) else
  (3, u1P R c (prP (rdP (mbP fr nv R B) (min 200 (1000 - s)) B.length (R r)).2.2), c + 1, s + (rdP (mbP fr nv R B) (min 200 (1000 - s)) B.length (R r)).2.1, none) := by
  rw [← any_iff] at h2
  unfold rsP
  rw [if_neg (by rw [h]; decide)]
  show (if _ then _ else _) = _
  rw [if_neg h2]
theorem mp_e {az : Nat → Nat → Int32} {ai : Nat → Nat → Int} {Z : Nat → Nat → Int} {al : Nat → Nat → Int64} {a : Nat} {l : Po} (hL : pL Z al a l) (hg : gk nv l) (hn : nv ≤ 8) (ez : Z 2 0 = (nv : Int)) (hfr : frK az ai = fr) : mpk (az 3) (ai 5) (fun p => dgk (al (a + 1)) p (Z a 0).toNat) (Z 2 0).toNat = plP fr nv l := by
  rw [ez, Int.toNat_natCast, ← hfr]
  exact pL_mp hL hg hn (by omega)
theorem prP_nil {l : Po} : prP l = [] ↔ l = [] := by
  unfold prP
  exact List.map_eq_nil_iff
end R2
