section UQ
variable {l a b : Po} {k : Nat} {x : Nat × Int64}
theorem cf_nil : cf [] k = 0 := rfl
theorem cf_cons : cf (x :: l) k = (if x.1 = k then x.2 else 0) + cf l k := rfl
theorem cf_app : cf (a ++ b) k = cf a k + cf b k := by
  induction a with
  | nil => rw [List.nil_append, cf_nil, Int64.zero_add]
  | cons x a ih => rw [List.cons_append, cf_cons, cf_cons, ih, Int64.add_assoc]
theorem cf_perm (h : a.Perm b) : cf a k = cf b k := by
  induction h with
  | nil => rfl
  | cons x _ ih => rw [cf_cons, cf_cons, ih]
  | swap x y l => rw [cf_cons, cf_cons, cf_cons, cf_cons, ← Int64.add_assoc, ← Int64.add_assoc, Int64.add_comm (if y.1 = k then y.2 else 0)]
  | trans _ _ h1 h2 => exact h1.trans h2
theorem cf_no (h : ∀ x, x ∈ l → x.1 ≠ k) : cf l k = 0 := by
  induction l with
  | nil => rfl
  | cons y l ih => rw [cf_cons, if_neg (h y (List.mem_cons_self ..)), ih fun x hx => h x (List.mem_cons_of_mem _ hx), Int64.zero_add]
theorem nrm_t {x : Nat × Int64} (h : nrm (x :: l)) : nrm l ∧ ∀ y, y ∈ l → y.1 < x.1 := ⟨⟨(List.pairwise_cons.mp h.1).2, fun y hy => h.2 y (List.mem_cons_of_mem _ hy)⟩, (List.pairwise_cons.mp h.1).1⟩
theorem nrm_mem (h : nrm l) : x ∈ l ↔ x.2 ≠ 0 ∧ cf l x.1 = x.2 := by
  induction l with
  | nil => exact ⟨fun q => (by cases q), fun q => absurd q.2.symm q.1⟩
  | cons y l ih =>
    obtain ⟨h1, h2⟩ := nrm_t h
    rw [List.mem_cons, cf_cons]
    constructor
    · rintro (e | e)
      · subst e
        rw [if_pos rfl, cf_no fun z hz => Nat.ne_of_lt (h2 z hz), Int64.add_zero]
        exact ⟨h.2 x (List.mem_cons_self ..), rfl⟩
      · have h3 := h2 x e
        rw [if_neg (by omega), Int64.zero_add]
        exact (ih h1).mp e
    · rintro ⟨e1, e2⟩
      by_cases q : y.1 = x.1
      · rw [if_pos q, cf_no fun z hz => by have := h2 z hz; omega, Int64.add_zero] at e2
        exact Or.inl (Prod.ext q e2).symm
      · rw [if_neg q, Int64.zero_add] at e2
        exact Or.inr ((ih h1).mpr ⟨e1, e2⟩)
theorem nrm_eq : ∀ (a b : Po), nrm a → nrm b → (∀ x, x ∈ a ↔ x ∈ b) → a = b := by
  intro a
  induction a with
  | nil =>
    intro b _ _ h
    cases b with
    | nil => rfl
    | cons y b => exact absurd ((h y).mpr (List.mem_cons_self ..)) List.not_mem_nil
  | cons x a ih =>
    intro b ha hb h
    cases b with
    | nil => exact absurd ((h x).mp (List.mem_cons_self ..)) List.not_mem_nil
    | cons y b =>
      obtain ⟨a1, a2⟩ := nrm_t ha
      obtain ⟨b1, b2⟩ := nrm_t hb
      have e : x = y := by
        rcases List.mem_cons.mp ((h x).mp (List.mem_cons_self ..)) with e | e
        · exact e
        · rcases List.mem_cons.mp ((h y).mpr (List.mem_cons_self ..)) with e2 | e2
          · exact e2.symm
          · have := a2 y e2
            have := b2 x e
            omega
      subst e
      rw [ih b a1 b1 fun z => ⟨fun hz => ?_, fun hz => ?_⟩]
      · rcases List.mem_cons.mp ((h z).mp (List.mem_cons_of_mem _ hz)) with e | e
        · have := a2 z hz
          rw [e] at this
          omega
        · exact e
      · rcases List.mem_cons.mp ((h z).mpr (List.mem_cons_of_mem _ hz)) with e | e
        · have := b2 z hz
          rw [e] at this
          omega
        · exact e
theorem nrm_u (ha : nrm a) (hb : nrm b) (h : ∀ k, cf a k = cf b k) : a = b := nrm_eq a b ha hb fun x => by rw [nrm_mem ha, nrm_mem hb, h]
end UQ
theorem stP_some {f b R : Po} {p d e : Nat} (h : stR f b p d e R) (hs : snP R) : stP f b p d e = some R := by
  have hx : ∃ R, stR f b p d e R ∧ snP R := ⟨R, h, hs⟩
  unfold stP
  rw [dif_pos hx]
  have h2 := (Classical.choose_spec hx).1
  rw [nrm_u h2.1 h.1 fun k => (h2.2 k).trans (h.2 k).symm]
theorem stP_none {f b R : Po} {p d e : Nat} (h : stR f b p d e R) (hs : ¬ snP R) : stP f b p d e = none := by
  unfold stP
  rw [dif_neg]
  rintro ⟨Q, h2, h3⟩
  rw [nrm_u h2.1 h.1 fun k => (h2.2 k).trans (h.2 k).symm] at h3
  exact hs h3
theorem stP_ok {f b R : Po} {p d e : Nat} (h : stP f b p d e = some R) : nrm R ∧ snP R := by
  unfold stP at h
  split at h
  next q =>
    cases h
    have := Classical.choose_spec q
    exact ⟨this.1.1, this.2⟩
  next => cases h
