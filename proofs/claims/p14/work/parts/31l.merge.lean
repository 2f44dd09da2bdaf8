/-! Merging: what is added to a sum in order. -/
def pdM (N : Nat) (c : Int64) (p lo : Nat) (f : Po) : Po := (nld f p lo).map fun x => (x.1 + N, x.2 * c)
/-- O is made, Rm is left of what there was, fs is left of what comes -/
def mgI (N : Nat) (c : Int64) (p lo : Nat) (A f O Rm fs : Po) : Prop := (nrm O ∧ nrm Rm ∧ fs.Pairwise (fun x y => y.1 < x.1)) ∧ (∀ x, x ∈ O → ∀ y, y ∈ Rm → y.1 < x.1) ∧ (∀ x, x ∈ O → ∀ y, y ∈ fs → ¬ dgt y.1 p = lo → y.1 + N < x.1) ∧ ((∀ x, x ∈ O → x.1 < 2 ^ 63) ∧ ∀ x, x ∈ Rm → x.1 < 2 ^ 63) ∧ ∀ k, cf O k + (cf Rm k + cf (pdM N c p lo fs) k) = cf A k + cf (pdM N c p lo f) k
section MG
variable {N : Nat} {c : Int64} {p lo : Nat} {A f O Rm fs : Po} {x y : Nat × Int64}
theorem pd_lo (h : dgt x.1 p = lo) : pdM N c p lo (x :: fs) = pdM N c p lo fs := by
  unfold pdM nld
  rw [List.filter_cons, if_neg (by simp [h])]
theorem pd_hi (h : ¬ dgt x.1 p = lo) : pdM N c p lo (x :: fs) = (x.1 + N, x.2 * c) :: pdM N c p lo fs := by
  unfold pdM nld
  rw [List.filter_cons, if_pos (by simp [h])]
  rfl
theorem nrm_snoc (h : nrm O) (hx : x.2 ≠ 0) (hl : ∀ y, y ∈ O → x.1 < y.1) : nrm (O ++ [x]) := by
  refine ⟨List.pairwise_append.mpr ⟨h.1, List.pairwise_singleton _ _, fun a ha b hb => ?_⟩, fun a ha => ?_⟩
  · rw [List.mem_singleton.mp hb]; exact hl a ha
  · rcases List.mem_append.mp ha with q | q
    · exact h.2 a q
    · rw [List.mem_singleton.mp q]; exact hx
theorem cf_snoc {k : Nat} : cf (O ++ [x]) k = cf O k + if x.1 = k then x.2 else 0 := by
  rw [cf_app, cf_cons, cf_nil, Int64.add_zero]
theorem mg_0 (hA : nrm A) (hf : f.Pairwise (fun x y => y.1 < x.1)) (h63 : ∀ x, x ∈ A → x.1 < 2 ^ 63) : mgI N c p lo A f [] A f := ⟨⟨⟨List.Pairwise.nil, (fun _ h => by cases h)⟩, hA, hf⟩, (fun _ h => by cases h), (fun _ h => by cases h), ⟨(fun _ h => by cases h), h63⟩, fun k => by rw [cf_nil, Int64.zero_add]⟩
theorem mg_skip (h : mgI N c p lo A f O Rm (x :: fs)) (hl : dgt x.1 p = lo) : mgI N c p lo A f O Rm fs := by
  obtain ⟨⟨h1, h2, h3⟩, h4, h5, h6, h7⟩ := h
  exact ⟨⟨h1, h2, (List.pairwise_cons.mp h3).2⟩, h4, fun a ha b hb => h5 a ha b (List.mem_cons_of_mem _ hb), h6, fun k => by have := h7 k; rw [pd_lo hl] at this; exact this⟩
theorem mg_move (h : mgI N c p lo A f O (y :: Rm) (x :: fs)) (hk : x.1 + N < y.1) : mgI N c p lo A f (O ++ [y]) Rm (x :: fs) := by
  obtain ⟨⟨h1, h2, h3⟩, h4, h5, ⟨h6, h8⟩, h7⟩ := h
  have h9 := nrm_t h2
  refine ⟨⟨nrm_snoc h1 (h2.2 y (List.mem_cons_self ..)) fun a ha => h4 a ha y (List.mem_cons_self ..), h9.1, h3⟩, fun a ha b hb => ?_, fun a ha b hb hq => ?_, ⟨fun a ha => ?_, fun a ha => h8 a (List.mem_cons_of_mem _ ha)⟩, fun k => ?_⟩
  · rcases List.mem_append.mp ha with q | q
    · exact h4 a q b (List.mem_cons_of_mem _ hb)
    · rw [List.mem_singleton.mp q]; exact h9.2 b hb
  · rcases List.mem_append.mp ha with q | q
    · exact h5 a q b hb hq
    · rw [List.mem_singleton.mp q]
      rcases List.mem_cons.mp hb with e | e
      · rw [e]; exact hk
      · have := (List.pairwise_cons.mp h3).1 b e
        omega
  · rcases List.mem_append.mp ha with q | q
    · exact h6 a q
    · rw [List.mem_singleton.mp q]; exact h8 y (List.mem_cons_self ..)
  · rw [← h7 k, cf_snoc, cf_cons, Int64.add_assoc, Int64.add_assoc]
theorem mg_add {Rm0 O1 : Po} {v w : Int64} (h : mgI N c p lo A f O Rm0 (x :: fs)) (hlo : ¬ dgt x.1 p = lo) (h63 : x.1 + N < 2 ^ 63) (hR : (Rm0 = Rm ∧ w = 0) ∨ Rm0 = (x.1 + N, w) :: Rm) (hlt : ∀ y, y ∈ Rm → y.1 < x.1 + N) (hv : v = x.2 * c + w) (hO : (v ≠ 0 ∧ O1 = O ++ [(x.1 + N, v)]) ∨ (v = 0 ∧ O1 = O)) : mgI N c p lo A f O1 Rm fs := by
  obtain ⟨⟨h1, h2, h3⟩, h4, h5, ⟨h6, h8⟩, h7⟩ := h
  have hx : ∀ a, a ∈ O → x.1 + N < a.1 := fun a ha => h5 a ha x (List.mem_cons_self ..) hlo
  have hm : ∀ b, b ∈ Rm → b ∈ Rm0 := fun b hb => by
    rcases hR with ⟨e, _⟩ | e <;> rw [e]
    · exact hb
    · exact List.mem_cons_of_mem _ hb
  have hn : nrm Rm := by
    rcases hR with ⟨e, _⟩ | e
    · rw [← e]; exact h2
    · rw [e] at h2; exact (nrm_t h2).1
  have hc : ∀ k, cf Rm0 k = (if x.1 + N = k then w else 0) + cf Rm k := fun k => by
    rcases hR with ⟨e, e2⟩ | e
    · rw [e, e2]
      split <;> rw [Int64.zero_add]
    · rw [e, cf_cons]
  have hO2 : ∀ a, a ∈ O1 → a ∈ O ∨ a = (x.1 + N, v) := fun a ha => by
    rcases hO with ⟨_, e⟩ | ⟨_, e⟩ <;> rw [e] at ha
    · rcases List.mem_append.mp ha with q | q
      · exact Or.inl q
      · exact Or.inr (List.mem_singleton.mp q)
    · exact Or.inl ha
  refine ⟨⟨?_, hn, (List.pairwise_cons.mp h3).2⟩, fun a ha b hb => ?_, fun a ha b hb hq => ?_, ⟨fun a ha => ?_, fun a ha => h8 a (hm a ha)⟩, fun k => ?_⟩
  · rcases hO with ⟨q, e⟩ | ⟨_, e⟩ <;> rw [e]
    · exact nrm_snoc h1 q hx
    · exact h1
  · rcases hO2 a ha with q | q
    · exact h4 a q b (hm b hb)
    · rw [q]; exact hlt b hb
  · rcases hO2 a ha with q | q
    · exact h5 a q b (List.mem_cons_of_mem _ hb) hq
    · rw [q]
      have := (List.pairwise_cons.mp h3).1 b hb
      show b.1 + N < x.1 + N
      omega
  · rcases hO2 a ha with q | q
    · exact h6 a q
    · rw [q]; exact h63
  · have e1 : cf O1 k = cf O k + if x.1 + N = k then v else 0 := by
      rcases hO with ⟨_, e⟩ | ⟨q, e⟩ <;> rw [e]
      · rw [cf_snoc]
      · rw [q]
        split <;> rw [Int64.add_zero]
    rw [← h7 k, pd_hi hlo, cf_cons, hc, e1]
    show cf O k + (if x.1 + N = k then v else 0) + (cf Rm k + cf (pdM N c p lo fs) k) = cf O k + ((if x.1 + N = k then w else 0) + cf Rm k + ((if x.1 + N = k then x.2 * c else 0) + cf (pdM N c p lo fs) k))
    by_cases q : x.1 + N = k
    · rw [if_pos q, if_pos q, if_pos q, hv]
      ac_rfl
    · rw [if_neg q, if_neg q, if_neg q]
      simp only [Int64.zero_add, Int64.add_zero]
theorem mg_end (h : mgI N c p lo A f O Rm []) : (nrm (O ++ Rm) ∧ ∀ x, x ∈ O ++ Rm → x.1 < 2 ^ 63) ∧ ∀ k, cf (O ++ Rm) k = cf A k + cf (pdM N c p lo f) k := by
  obtain ⟨⟨h1, h2, h3⟩, h4, h5, ⟨h6, h8⟩, h7⟩ := h
  refine ⟨⟨⟨List.pairwise_append.mpr ⟨h1.1, h2.1, fun a ha b hb => h4 a ha b hb⟩, fun a ha => ?_⟩, fun a ha => ?_⟩, fun k => ?_⟩
  · rcases List.mem_append.mp ha with q | q
    · exact h1.2 a q
    · exact h2.2 a q
  · rcases List.mem_append.mp ha with q | q
    · exact h6 a q
    · exact h8 a q
  · rw [← h7 k, cf_app]
    show _ = cf O k + (cf Rm k + cf [] k)
    rw [cf_nil, Int64.add_zero]
end MG
/-! The same in rows of longs. -/
theorem ls_app {α : Type} {g : Nat → α} {m : Nat} : ∀ n : Nat, ls g (m + n) = ls g m ++ ls (fun t => g (m + t)) n := by
  intro n
  induction n with
  | zero => exact (List.append_nil _).symm
  | succ n ih =>
    show ls g (m + n) ++ [g (m + n)] = ls g m ++ (ls (fun t => g (m + t)) n ++ [g (m + n)])
    rw [ih, List.append_assoc]
theorem ls_drop {g : Nat → Int64 × Int64} {l : Po} {i : Nat} (h : ls g l.length = l.map en) (hi : i ≤ l.length) : ls (fun t => g (i + t)) (l.length - i) = (l.drop i).map en := by
  have e : l.length = i + (l.length - i) := by omega
  rw [e, ls_app] at h
  have e2 : l.map en = (l.take i).map en ++ (l.drop i).map en := by rw [← List.map_append, List.take_append_drop]
  rw [e2] at h
  exact (List.append_inj h (by rw [ls_len, List.length_map, List.length_take]; omega)).2
theorem ls_at {g : Nat → Int64 × Int64} {l : Po} {i : Nat} (h : ls g l.length = l.map en) (hi : i < l.length) : ∃ x, l.drop i = x :: l.drop (i + 1) ∧ g i = en x ∧ x ∈ l := by
  have h1 := ls_drop h (i := i) (by omega)
  obtain ⟨m, hm⟩ : ∃ m, l.length - i = m + 1 := ⟨l.length - i - 1, by omega⟩
  rw [hm, ls_head, List.drop_eq_getElem_cons hi] at h1
  refine ⟨l[i], List.drop_eq_getElem_cons hi, ?_, List.getElem_mem hi⟩
  have h2 : g (i + 0) = en l[i] := (List.cons.inj h1).1
  exact h2
theorem ls_push {K F K1 F1 : Nat → Int64} {O : Po} {x : Nat × Int64} {m : Nat} (h : ls (fun t => (K t, F t)) O.length = O.map en) (hm : m = O.length) (hK : K1 = vp_updL K m (Int64.ofNat x.1)) (hF : F1 = vp_updL F m x.2) : ls (fun t => (K1 t, F1 t)) (O ++ [x]).length = (O ++ [x]).map en := by
  rw [List.length_append, List.map_append, ← h]
  show ls _ O.length ++ [(K1 O.length, F1 O.length)] = ls (fun t => (K t, F t)) O.length ++ [en x]
  rw [hK, hF, hm, up_s, up_s]
  congr 1
  exact ls_cg _ fun t ht => by rw [up_o (by omega), up_o (by omega)]
theorem ls_fill {K F K1 F1 K2 F2 : Nat → Int64} {O A : Po} {m i n : Nat} (h : ls (fun t => (K t, F t)) O.length = O.map en) (hA : ls (fun t => (K2 t, F2 t)) A.length = A.map en) (hm : m = O.length) (hi : i ≤ A.length) (hn : n = A.length - i) (hK : K1 = va_cpy K2 K i m n) (hF : F1 = va_cpy F2 F i m n) : ls (fun t => (K1 t, F1 t)) (O ++ A.drop i).length = (O ++ A.drop i).map en := by
  rw [List.length_append, List.length_drop, List.map_append, ← h, ← ls_drop hA hi, ls_app]
  congr 1
  · refine ls_cg _ fun t ht => ?_
    rw [hK, hF]
    unfold va_cpy
    rw [if_neg (by omega), if_neg (by omega)]
  · refine ls_cg _ fun t ht => ?_
    rw [hK, hF]
    unfold va_cpy
    rw [if_pos (by omega), if_pos (by omega)]
    have : i + (O.length + t - m) = i + t := by omega
    rw [this]
/-- the stepper's sum -/
def pS (Z : Nat → Nat → Int) (al : Nat → Nat → Int64) (sk : Nat) (A : Po) : Prop := (Z 219 0 = (A.length : Int) ∧ ls (fun t => (al (220 + sk) t, al (221 + sk) t)) A.length = A.map en) ∧ nrm A ∧ ∀ x, x ∈ A → x.1 < 2 ^ 63
def amI (al al1 : Nat → Nat → Int64) (sk : Nat) (A f : Po) (N : Nat) (c : Int64) (p lo : Nat) (x8 x9 x10 : Int) : Prop := (∀ b, b ≠ 222 - sk → b ≠ 223 - sk → al1 b = al b) ∧ ∃ O : Po, (x9 = (O.length : Int) ∧ ls (fun t => (al1 (222 - sk) t, al1 (223 - sk) t)) O.length = O.map en) ∧ mgI N c p lo A f O (A.drop x8.toNat) (f.drop x10.toNat) ∧ x9 + ((nld (f.drop x10.toNat) p lo).length : Int) ≤ x8 + ((nld f p lo).length : Int)
section AM
variable {Z : Nat → Nat → Int} {al al1 al2 al3 : Nat → Nat → Int64} {sk a N p lo nv : Nat} {A f : Po} {c k1 y11 y13 v w : Int64} {x8 x9 x10 z8 i4 i5 : Int}
theorem fx (hf : pL Z al a f) (h0 : 0 ≤ x10 ∧ x10 < Z a 0) : ∃ y, f.drop x10.toNat = y :: f.drop (x10 + 1).toNat ∧ al (a + 1) x10.toNat = Int64.ofNat y.1 ∧ al (a + 2) x10.toNat = y.2 ∧ y ∈ f := by
  have h1 := hf.1
  obtain ⟨y, h2, h3, h4⟩ := ls_at hf.2 (i := x10.toNat) (by omega)
  refine ⟨y, by rw [show (x10 + 1).toNat = x10.toNat + 1 by omega]; exact h2, congrArg Prod.fst h3, congrArg Prod.snd h3, h4⟩
theorem sx (hS : pS Z al sk A) (h0 : 0 ≤ x8 ∧ x8 < Z 219 0) : ∃ y, A.drop x8.toNat = y :: A.drop (x8 + 1).toNat ∧ al (220 + sk) x8.toNat = Int64.ofNat y.1 ∧ al (221 + sk) x8.toNat = y.2 ∧ y ∈ A := by
  have h1 := hS.1.1
  obtain ⟨y, h2, h3, h4⟩ := ls_at hS.1.2 (i := x8.toNat) (by omega)
  refine ⟨y, by rw [show (x8 + 1).toNat = x8.toNat + 1 by omega]; exact h2, congrArg Prod.fst h3, congrArg Prod.snd h3, h4⟩
theorem nl_lo {x : Nat × Int64} {fs : Po} (h : dgt x.1 p = lo) : nld (x :: fs) p lo = nld fs p lo := by
  unfold nld
  rw [List.filter_cons, if_neg (by simp [h])]
theorem nl_hi {x : Nat × Int64} {fs : Po} (h : ¬ dgt x.1 p = lo) : nld (x :: fs) p lo = x :: nld fs p lo := by
  unfold nld
  rw [List.filter_cons, if_pos (by simp [h])]
theorem on_int {n : Nat} (h : n < 2 ^ 63) : (Int64.ofNat n).toInt = (n : Int) := Int64.toInt_ofNat_of_lt h
theorem am_0 (hS : pS Z al sk A) (hf : f.Pairwise (fun x y => y.1 < x.1)) : amI al al sk A f N c p lo 0 0 0 := ⟨fun _ _ _ => rfl, [], ⟨rfl, rfl⟩, mg_0 hS.2.1 hf hS.2.2, by
  show (0 : Int) + ((nld f p lo).length : Int) ≤ 0 + _
  omega⟩
theorem pw_lo {y : Nat × Int64} (hg : gk nv f) (hn : nv ≤ 8) (hy : y ∈ f) (hp : i4 = (p : Int) ∧ p < 8) (hl : i5 = (lo : Int)) : pw (Int64.ofNat y.1) i4 = i5 ↔ dgt y.1 p = lo := by
  rw [pw_dgt (gk_64 hg hn y hy) (by omega), hl, show i4.toNat = p by omega]
  omega
theorem am_skip (h : amI al al1 sk A f N c p lo x8 x9 x10) (hf : pL Z al a f) (hg : gk nv f) (hn : nv ≤ 8) (h0 : 0 ≤ x10 ∧ x10 < Z a 0) (hp : i4 = (p : Int) ∧ p < 8) (hl : i5 = (lo : Int)) (hq : pw (al (a + 1) x10.toNat) i4 = i5) : amI al al1 sk A f N c p lo x8 x9 (x10 + 1) := by
  obtain ⟨h1, O, h2, h3, h4⟩ := h
  obtain ⟨y, e1, e2, e3, e4⟩ := fx hf h0
  rw [e2, pw_lo hg hn e4 hp hl] at hq
  rw [e1] at h3 h4
  rw [nl_lo hq] at h4
  exact ⟨h1, O, h2, mg_skip h3 hq, h4⟩
theorem am_move (h : amI al al1 sk A f N c p lo x8 x9 x10) (hs : sk = 0 ∨ sk = 2) (hf : pL Z al a f) (hS : pS Z al sk A) (h0 : 0 ≤ x10 ∧ x10 < Z a 0) (h8 : 0 ≤ x8 ∧ x8 < Z 219 0) (hk : k1 = Int64.ofNat N) (hN : ∀ x, x ∈ f → x.1 + N < 2 ^ 63) (ey : y11 = al (a + 1) x10.toNat + k1) (hgt : y11.toInt < (al1 (220 + sk) x8.toNat).toInt) (e1 : al2 = uA al1 (222 - sk) (vp_updL (al1 (222 - sk)) x9.toNat (al1 (220 + sk) x8.toNat))) (e2 : al3 = uA al2 (223 - sk) (vp_updL (al2 (223 - sk)) x9.toNat (al2 (221 + sk) x8.toNat))) : amI al al3 sk A f N c p lo (x8 + 1) (x9 + 1) x10 := by
  obtain ⟨h1, O, h2, h3, h4⟩ := h
  obtain ⟨x, q1, q2, q3, q4⟩ := fx hf h0
  obtain ⟨y, r1, r2, r3, r4⟩ := sx hS h8
  have k20 : al1 (220 + sk) = al (220 + sk) := h1 _ (by omega) (by omega)
  have k21 : al1 (221 + sk) = al (221 + sk) := h1 _ (by omega) (by omega)
  have m21 : al2 (221 + sk) = al (221 + sk) := by rw [e1, uA_o (by omega), k21]
  rw [k20, r2, on_int (hS.2.2 y r4), ey, q2, hk, ← Int64.ofNat_add, on_int (hN x q4)] at hgt
  rw [q1, r1] at h3
  refine ⟨fun b b1 b2 => by rw [e2, uA_o b2, e1, uA_o b1]; exact h1 b b1 b2, O ++ [y], ⟨by rw [List.length_append, h2.1]; rfl, ?_⟩, by rw [q1]; exact mg_move h3 (by omega), by omega⟩
  refine ls_push h2.2 (m := x9.toNat) (by omega) ?_ ?_
  · rw [e2, uA_o (by omega), e1, uA_s, k20, r2]
  · rw [e2, uA_s, m21, r3, e1, uA_o (by omega)]
theorem am_add1 (h : amI al al1 sk A f N c p lo x8 x9 x10) (hs : sk = 0 ∨ sk = 2) (hf : pL Z al a f) (hg : gk nv f) (hn : nv ≤ 8) (hS : pS Z al sk A) (h0 : 0 ≤ x10 ∧ x10 < Z a 0) (h8 : 0 ≤ x8 ∧ x8 ≤ Z 219 0) (hp : i4 = (p : Int) ∧ p < 8) (hl : i5 = (lo : Int)) (hq : pw (al (a + 1) x10.toNat) i4 ≠ i5) (hk : k1 = Int64.ofNat N) (hN : ∀ x, x ∈ f → x.1 + N < 2 ^ 63) (ey : y11 = al (a + 1) x10.toNat + k1) (ev : y13 = al (a + 2) x10.toNat * c) (hv : v = y13 + w) (hm : (w = 0 ∧ z8 = x8 ∧ (x8 = Z 219 0 ∨ (al1 (220 + sk) x8.toNat).toInt < y11.toInt)) ∨ (w = al1 (221 + sk) x8.toNat ∧ z8 = x8 + 1 ∧ x8 < Z 219 0 ∧ al1 (220 + sk) x8.toNat = y11)) : ∃ O x, ((x9 = (O.length : Int) ∧ ls (fun t => (al1 (222 - sk) t, al1 (223 - sk) t)) O.length = O.map en) ∧ y11 = Int64.ofNat x) ∧ (∀ O1, (v ≠ 0 ∧ O1 = O ++ [(x, v)]) ∨ (v = 0 ∧ O1 = O) → mgI N c p lo A f O1 (A.drop z8.toNat) (f.drop (x10 + 1).toNat)) ∧ x9 + 1 + ((nld (f.drop (x10 + 1).toNat) p lo).length : Int) ≤ z8 + ((nld f p lo).length : Int) := by
  obtain ⟨h1, O, h2, h3, h4⟩ := h
  obtain ⟨x, q1, q2, q3, q4⟩ := fx hf h0
  have k20 : al1 (220 + sk) = al (220 + sk) := h1 _ (by omega) (by omega)
  have k21 : al1 (221 + sk) = al (221 + sk) := h1 _ (by omega) (by omega)
  rw [q2] at hq ey
  rw [q3] at ev
  rw [Ne, pw_lo hg hn q4 hp hl] at hq
  have e11 : y11 = Int64.ofNat (x.1 + N) := by rw [ey, hk, Int64.ofNat_add]
  have ei : y11.toInt = ((x.1 + N : Nat) : Int) := by rw [e11, on_int (hN x q4)]
  rw [q1] at h3 h4
  rw [nl_hi hq, List.length_cons] at h4
  refine ⟨O, x.1 + N, ⟨h2, e11⟩, fun O1 hO => ?_, ?_⟩
  · rcases hm with ⟨m1, m2, m3⟩ | ⟨m1, m2, m3, m4⟩
    · rw [m2]
      refine mg_add h3 hq (hN x q4) (Or.inl ⟨rfl, m1⟩) (fun b hb => ?_) (by rw [hv, ev]) hO
      rcases m3 with m3 | m3
      · rw [List.drop_eq_nil_of_le (by have := hS.1.1; omega)] at hb
        cases hb
      · by_cases q : x8 < Z 219 0
        · obtain ⟨y, r1, r2, r3, r4⟩ := sx hS ⟨h8.1, q⟩
          rw [k20, r2, on_int (hS.2.2 y r4), ei] at m3
          rw [r1] at hb h3
          rcases List.mem_cons.mp hb with e | e
          · rw [e]; omega
          · have := (nrm_t h3.1.2.1).2 b e
            omega
        · rw [List.drop_eq_nil_of_le (by have := hS.1.1; omega)] at hb
          cases hb
    · obtain ⟨y, r1, r2, r3, r4⟩ := sx hS ⟨h8.1, m3⟩
      rw [k20, r2] at m4
      rw [k21, r3] at m1
      have m5 : y.1 = x.1 + N := by
        have := congrArg Int64.toInt m4
        rw [on_int (hS.2.2 y r4), ei] at this
        omega
      rw [m2]
      rw [r1] at h3
      refine mg_add h3 hq (hN x q4) (w := w) (Or.inr ?_) (fun b hb => ?_) (by rw [hv, ev]) hO
      · rw [m1, ← m5]
      · have := (nrm_t h3.1.2.1).2 b hb
        omega
  · rcases hm with ⟨_, m2, _⟩ | ⟨_, m2, _⟩ <;> omega
theorem am_addZ (h : amI al al1 sk A f N c p lo x8 x9 x10) (hs : sk = 0 ∨ sk = 2) (hf : pL Z al a f) (hg : gk nv f) (hn : nv ≤ 8) (hS : pS Z al sk A) (h0 : 0 ≤ x10 ∧ x10 < Z a 0) (h8 : 0 ≤ x8 ∧ x8 ≤ Z 219 0) (hp : i4 = (p : Int) ∧ p < 8) (hl : i5 = (lo : Int)) (hq : pw (al (a + 1) x10.toNat) i4 ≠ i5) (hk : k1 = Int64.ofNat N) (hN : ∀ x, x ∈ f → x.1 + N < 2 ^ 63) (ey : y11 = al (a + 1) x10.toNat + k1) (ev : y13 = al (a + 2) x10.toNat * c) (hv : v = y13 + w) (hm : (w = 0 ∧ z8 = x8 ∧ (x8 = Z 219 0 ∨ (al1 (220 + sk) x8.toNat).toInt < y11.toInt)) ∨ (w = al1 (221 + sk) x8.toNat ∧ z8 = x8 + 1 ∧ x8 < Z 219 0 ∧ al1 (220 + sk) x8.toNat = y11)) (v0 : v = 0) : amI al al1 sk A f N c p lo z8 x9 (x10 + 1) := by
  obtain ⟨O, x, ⟨g1, g2⟩, g3, g4⟩ := am_add1 h hs hf hg hn hS h0 h8 hp hl hq hk hN ey ev hv hm
  exact ⟨h.1, O, g1, g3 O (Or.inr ⟨v0, rfl⟩), by omega⟩
theorem am_addN (h : amI al al1 sk A f N c p lo x8 x9 x10) (hs : sk = 0 ∨ sk = 2) (hf : pL Z al a f) (hg : gk nv f) (hn : nv ≤ 8) (hS : pS Z al sk A) (h0 : 0 ≤ x10 ∧ x10 < Z a 0) (h8 : 0 ≤ x8 ∧ x8 ≤ Z 219 0) (hp : i4 = (p : Int) ∧ p < 8) (hl : i5 = (lo : Int)) (hq : pw (al (a + 1) x10.toNat) i4 ≠ i5) (hk : k1 = Int64.ofNat N) (hN : ∀ x, x ∈ f → x.1 + N < 2 ^ 63) (ey : y11 = al (a + 1) x10.toNat + k1) (ev : y13 = al (a + 2) x10.toNat * c) (hv : v = y13 + w) (hm : (w = 0 ∧ z8 = x8 ∧ (x8 = Z 219 0 ∨ (al1 (220 + sk) x8.toNat).toInt < y11.toInt)) ∨ (w = al1 (221 + sk) x8.toNat ∧ z8 = x8 + 1 ∧ x8 < Z 219 0 ∧ al1 (220 + sk) x8.toNat = y11)) (v0 : v ≠ 0) (e1 : al2 = uA al1 (222 - sk) (vp_updL (al1 (222 - sk)) x9.toNat y11)) (e2 : al3 = uA al2 (223 - sk) (vp_updL (al2 (223 - sk)) x9.toNat v)) : amI al al3 sk A f N c p lo z8 (x9 + 1) (x10 + 1) := by
  obtain ⟨O, x, ⟨g1, g2⟩, g3, g4⟩ := am_add1 h hs hf hg hn hS h0 h8 hp hl hq hk hN ey ev hv hm
  refine ⟨fun b b1 b2 => by rw [e2, uA_o b2, e1, uA_o b1]; exact h.1 b b1 b2, O ++ [(x, v)], ⟨by rw [List.length_append, g1.1]; rfl, ?_⟩, g3 _ (Or.inl ⟨v0, rfl⟩), g4⟩
  refine ls_push g1.2 (m := x9.toNat) (by omega) ?_ ?_
  · rw [e2, uA_o (by omega), e1, uA_s, g2]
  · rw [e2, uA_s, e1, uA_o (by omega)]
/-- what adding a multiple leaves -/
def amR (Z Z1 : Nat → Nat → Int) (al al1 : Nat → Nat → Int64) (sk : Nat) (A : Po) (N : Nat) (c : Int64) (p lo : Nat) (f A1 : Po) : Prop := Z1 = u2 Z 219 0 (A1.length : Int) ∧ (∀ b, b ≠ 222 - sk → b ≠ 223 - sk → al1 b = al b) ∧ pS Z1 al1 (2 - sk) A1 ∧ (∀ k, cf A1 k = cf A k + cf (pdM N c p lo f) k) ∧ A1.length ≤ A.length + (nld f p lo).length
theorem am_end {Z1 : Nat → Nat → Int} (h : amI al al1 sk A f N c p lo x8 x9 x10) (hs : sk = 0 ∨ sk = 2) (hf : pL Z al a f) (hS : pS Z al sk A) (h0 : x10 = Z a 0) (h8 : 0 ≤ x8 ∧ x8 ≤ Z 219 0) (e1 : al2 = uA al1 (222 - sk) (va_cpy (al1 (220 + sk)) (al1 (222 - sk)) x8.toNat x9.toNat (Z 219 0 - x8).toNat)) (e2 : al3 = uA al2 (223 - sk) (va_cpy (al2 (221 + sk)) (al2 (223 - sk)) x8.toNat x9.toNat (Z 219 0 - x8).toNat)) (ez : Z1 = u2 Z 219 0 (x9 + Z 219 0 - x8)) : ∃ A1, amR Z Z1 al al3 sk A N c p lo f A1 := by
  obtain ⟨h1, O, h2, h3, h4⟩ := h
  have hS1 := hS.1.1
  have hf1 := hf.1
  have k20 : al1 (220 + sk) = al (220 + sk) := h1 _ (by omega) (by omega)
  have k21 : al1 (221 + sk) = al (221 + sk) := h1 _ (by omega) (by omega)
  rw [show f.drop x10.toNat = [] from List.drop_eq_nil_of_le (by omega)] at h3 h4
  have h5 := mg_end h3
  have hlen : ((O ++ A.drop x8.toNat).length : Int) = x9 + Z 219 0 - x8 := by rw [List.length_append, List.length_drop]; omega
  have h4b : x9 ≤ x8 + ((nld f p lo).length : Int) := by
    have h6 : x9 + ((nld [] p lo).length : Int) ≤ x8 + ((nld f p lo).length : Int) := h4
    have e0 : (nld [] p lo).length = 0 := rfl
    omega
  refine ⟨O ++ A.drop x8.toNat, by rw [ez, hlen], fun b b1 b2 => by rw [e2, uA_o b2, e1, uA_o b1]; exact h1 b b1 b2, ⟨⟨by rw [ez, u2_s, hlen], ?_⟩, h5.1⟩, h5.2, by omega⟩
  rw [show 220 + (2 - sk) = 222 - sk by omega, show 221 + (2 - sk) = 223 - sk by omega]
  refine ls_fill h2.2 hS.1.2 (m := x9.toNat) (i := x8.toNat) (n := (Z 219 0 - x8).toNat) (by omega) (by omega) (by omega) ?_ ?_
  · rw [e2, uA_o (by omega), e1, uA_s, k20]
  · rw [e2, uA_s, e1, uA_o (by omega), uA_o (by omega), k21]
end AM
