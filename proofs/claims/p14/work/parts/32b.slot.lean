/-! The reference's slots as lists. -/
def enR (V : Nat → Nat) (nv : Nat) (x : Nat × Int64) : Int64 × Int64 := (Int64.ofNat (tr V nv x.1), x.2)
theorem enR_1 {V : Nat → Nat} {nv : Nat} {x : Nat × Int64} : (enR V nv x).1 = Int64.ofNat (tr V nv x.1) := rfl
theorem enR_2 {V : Nat → Nat} {nv : Nat} {x : Nat × Int64} : (enR V nv x).2 = x.2 := rfl
def vR (ai : Nat → Nat → Int) : Nat → Nat := fun p => (ai 240 p).toNat
def frR (az : Nat → Nat → Int32) (ai : Nat → Nat → Int) : Nat → Bool := fun p => decide (az 239 (ai 240 p).toNat ≠ 0)
def qL (V : Nat → Nat) (nv : Nat) (ai : Nat → Nat → Int) (al : Nat → Nat → Int64) (i : Nat) (l : Po) : Prop := ai 242 i = (l.length : Int) ∧ ls (fun t => (al 244 (60 * i + t), al 243 (60 * i + t))) l.length = l.map (enR V nv)
section QL
variable {V : Nat → Nat} {nv i j n : Nat} {ai ai1 : Nat → Nat → Int} {al al1 : Nat → Nat → Int64} {l : Po}
theorem lsR_drop {g : Nat → Int64 × Int64} {l : Po} {i : Nat} (h : ls g l.length = l.map (enR V nv)) (hi : i ≤ l.length) : ls (fun t => g (i + t)) (l.length - i) = (l.drop i).map (enR V nv) := by
  have e : l.length = i + (l.length - i) := by omega
  rw [e, ls_app] at h
  have e2 : l.map (enR V nv) = (l.take i).map (enR V nv) ++ (l.drop i).map (enR V nv) := by rw [← List.map_append, List.take_append_drop]
  rw [e2] at h
  exact (List.append_inj h (by rw [ls_len, List.length_map, List.length_take]; omega)).2
theorem lsR_at {g : Nat → Int64 × Int64} {l : Po} {i : Nat} (h : ls g l.length = l.map (enR V nv)) (hi : i < l.length) : ∃ x, l.drop i = x :: l.drop (i + 1) ∧ g i = enR V nv x ∧ x ∈ l := by
  have h1 := lsR_drop h (i := i) (by omega)
  obtain ⟨m, hm⟩ : ∃ m, l.length - i = m + 1 := ⟨l.length - i - 1, by omega⟩
  rw [hm, ls_head, List.drop_eq_getElem_cons hi] at h1
  refine ⟨l[i], List.drop_eq_getElem_cons hi, ?_, List.getElem_mem hi⟩
  have h2 : g (i + 0) = enR V nv l[i] := (List.cons.inj h1).1
  exact h2
/-- term x of slot i -/
theorem qx {x : Int} (h : qL V nv ai al i l) (hx : 0 ≤ x ∧ x < ai 242 i) : ∃ y, l.drop x.toNat = y :: l.drop (x + 1).toNat ∧ al 244 (60 * i + x.toNat) = Int64.ofNat (tr V nv y.1) ∧ al 243 (60 * i + x.toNat) = y.2 ∧ y ∈ l := by
  have h1 := h.1
  obtain ⟨y, h2, h3, h4⟩ := lsR_at h.2 (i := x.toNat) (by omega)
  have q1 : al 244 (60 * i + x.toNat) = (enR V nv y).1 := congrArg Prod.fst h3
  have q2 : al 243 (60 * i + x.toNat) = (enR V nv y).2 := congrArg Prod.snd h3
  rw [enR_1] at q1
  rw [enR_2] at q2
  exact ⟨y, by rw [show (x + 1).toNat = x.toNat + 1 by omega]; exact h2, q1, q2, h4⟩
theorem qL_cg (h : qL V nv ai al i l) (e0 : ai1 242 i = ai 242 i) (e1 : ∀ t : Nat, (t : Int) < ai 242 i → al1 244 (60 * i + t) = al 244 (60 * i + t) ∧ al1 243 (60 * i + t) = al 243 (60 * i + t)) : qL V nv ai1 al1 i l := by
  refine ⟨e0.trans h.1, ?_⟩
  rw [← h.2]
  refine ls_cg _ fun t ht => ?_
  have := h.1
  rw [(e1 t (by omega)).1, (e1 t (by omega)).2]
theorem qL_gl (h : qL V nv ai al i l) (hg : gk nv l) : ∀ t : Nat, (t : Int) < ai 242 i → gl (al 243 (60 * i + t)) := fun t ht => by
  obtain ⟨y, _, _, e, hy⟩ := qx h (x := (t : Int)) (by omega)
  rw [Int.toNat_natCast] at e
  rw [e]
  have := gk_c hg hy
  exact ⟨this.1, this.2.1, this.2.2⟩
theorem dgf_G {K : Nat → Int64} {b p : Nat} {v : Int} : ∀ (n : Nat) (l : Po), l.length = n → (∀ t, t < n → ∃ x, l[t]? = some x ∧ pw (K (b + t)) v = (dgt x.1 p : Int)) → dgf K b v n = (dgP l p : Int) := by
  intro n
  induction n with
  | zero =>
    intro l hl _
    rw [List.eq_nil_of_length_eq_zero hl]
    rfl
  | succ n ih =>
    intro l hl h
    obtain ⟨l0, x, rfl, hl0⟩ := snoc_of hl
    have h5 := ih l0 hl0 fun t ht => by
      obtain ⟨y, q1, q2⟩ := h t (by omega)
      rw [List.getElem?_append_left (by omega)] at q1
      exact ⟨y, q1, q2⟩
    obtain ⟨y, q1, q2⟩ := h n (by omega)
    rw [List.getElem?_append_right (by omega), hl0, Nat.sub_self] at q1
    have e : x = y := Option.some.inj q1
    subst e
    simp only [dgf]
    rw [dgP_snoc, h5, q2]
    split <;> rename_i q <;> split <;> omega
theorem dgf_P {K F : Nat → Int64} {b : Nat} {v : Int} {p : Nat} (hV : pmV V nv) (hp : p < nv) (hv : v = (V p : Int)) (l : Po) (h : ls (fun t => (K (b + t), F (b + t))) l.length = l.map (enR V nv)) : dgf K b v l.length = (dgP l p : Int) := dgf_G _ l rfl fun t ht => by
  obtain ⟨x, h1, h2, h3⟩ := lsR_at h ht
  have q1 : K (b + t) = (enR V nv x).1 := congrArg Prod.fst h2
  rw [enR_1] at q1
  refine ⟨x, ?_, by rw [q1, hv]; exact pw_tr hV hp⟩
  have h4 := List.drop_eq_getElem_cons ht
  rw [h4] at h1
  rw [List.getElem?_eq_getElem ht, (List.cons.inj h1).1]
theorem qL_dg (h : qL V nv ai al i l) (hV : pmV V nv) {p : Nat} (hp : p < nv) {v : Int} (hv : v = (V p : Int)) {i1 : Int} (hi : i1 = (i : Int)) : dgf (al 244) (60 * i1).toNat v (ai 242 i1.toNat).toNat = (dgP l p : Int) := by
  rw [hi, show (60 * (i : Int)).toNat = 60 * i by omega, Int.toNat_natCast, h.1, Int.toNat_natCast]
  exact dgf_P hV hp hv l h.2
theorem qL_mp {az : Nat → Nat → Int32} (h : qL V nv ai al i l) (hV : pmV V nv) (hvr : vR ai = V) (ho : ∀ j, 0 ≤ ai 240 j) {i1 : Int} (hi : i1 = (i : Int)) : ∀ m : Nat, m ≤ nv → mpf (az 239) (ai 240) (fun v => dgf (al 244) (60 * i1).toNat v (ai 242 i1.toNat).toNat) m = mpP (frR az ai) l m := by
  intro m
  induction m with
  | zero => intro _; rfl
  | succ m ih =>
    intro hm
    have e0 : ai 240 m = (V m : Int) := by
      rw [← hvr]
      have := ho m
      show ai 240 m = ((ai 240 m).toNat : Int)
      omega
    have e1 := qL_dg h hV (p := m) (by omega) e0 hi
    show (if az 239 (ai 240 m).toNat = 0 ∧ 0 < dgf (al 244) (60 * i1).toNat (ai 240 m) (ai 242 i1.toNat).toNat then (m : Int) else mpf _ _ _ m) = (if frR az ai m = false ∧ 0 < dgP l m then (m : Int) else mpP _ l m)
    rw [ih (by omega), e1]
    by_cases q : az 239 (ai 240 m).toNat = 0 ∧ 0 < (dgP l m : Int)
    · rw [if_pos q, if_pos ⟨by unfold frR; simp [q.1], by omega⟩]
    · rw [if_neg q, if_neg (fun z => q ⟨by have := z.1; unfold frR at this; simpa using this, by omega⟩)]
end QL
/-- rank, turn by turn -/
theorem rk_s {V : Nat → Nat} {nv N : Nat} {x : Int} {y l : Int64} {o : Int} (hV : pmV V nv) (hN : N < 256 ^ nv) (h0 : 0 ≤ x ∧ x < (nv : Int)) (hl : l = Int64.ofNat (tr V nv N)) (ho : o = (V x.toNat : Int)) (hy : y = Int64.ofNat (N / 256 ^ (x + 1).toNat)) : (y <<< ((vz 8).toInt64 &&& 63)) ||| (vz (pw l o)).toInt64 = Int64.ofNat (N / 256 ^ (x + -1 + 1).toNat) := by
  have hn := hV.1
  have e9 : ((vz 8).toInt64 &&& 63) = (8 : Int64) := by decide
  have e1 : (x + 1).toNat = x.toNat + 1 := by omega
  have e2 : (x + -1 + 1).toNat = x.toNat := by omega
  have hd := dgt_lt N x.toNat
  have e3 : N / 256 ^ (x.toNat + 1) * 256 + dgt N x.toNat = N / 256 ^ x.toNat := by
    rw [Nat.pow_succ, ← Nat.div_div_eq_div_mul]
    unfold dgt
    omega
  have h64 : N < 2 ^ 64 := Nat.lt_of_lt_of_le hN (by rw [p256]; exact Nat.pow_le_pow_right (by decide) (by omega))
  rw [e9, hy, hl, ho, pw_tr hV (by omega), vz_64 (by omega), e1, e2, shl_or hd (by rw [e3]; exact Nat.lt_of_le_of_lt (Nat.div_le_self _ _) h64), e3]
theorem and1 {a : Int} (h : 0 ≤ a ∧ a ≤ 1) : vz a &&& vz 1 = vz a := by
  rcases (show a = 0 ∨ a = 1 by omega) with rfl | rfl <;> decide
theorem and0 {a : Int} (h : 0 ≤ a ∧ a ≤ 1) : vz a &&& vz 0 = vz 0 := by
  rcases (show a = 0 ∨ a = 1 by omega) with rfl | rfl <;> decide
