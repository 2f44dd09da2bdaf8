/-! The reference's sort by rank. -/
def slF (al al1 : Nat → Nat → Int64) (i : Nat) : Prop := (∀ a, a ≠ 243 → a ≠ 244 → al1 a = al a) ∧ ∀ a j, j < 60 * i ∨ 60 * i + 60 ≤ j → al1 a j = al a j
def soA (V : Nat → Nat) (nv : Nat) (al al1 : Nat → Nat → Int64) (i n : Nat) (K F : Nat → Int64) : Prop := slF al al1 i ∧ (∀ t, t < n → ∃ N, K t = Int64.ofNat N ∧ (N < 256 ^ nv ∧ N < 2 ^ 63) ∧ al1 244 (60 * i + t) = Int64.ofNat (tr V nv N)) ∧ ∀ t, t < n → al1 243 (60 * i + t) = F t
def soO (V : Nat → Nat) (nv : Nat) (al al1 : Nat → Nat → Int64) (i n : Nat) (l : Po) (x : Int) : Prop := ∃ K F, soA V nv al al1 i n K F ∧ (ls (fun t => (K t, F t)) n).Perm (l.map en) ∧ srt K x
def soN (V : Nat → Nat) (nv : Nat) (al al1 : Nat → Nat → Int64) (i n : Nat) (l : Po) (c k r : Int64) (y x : Int) : Prop := (∃ N, r = Int64.ofNat N ∧ (N < 256 ^ nv ∧ N < 2 ^ 63) ∧ k = Int64.ofNat (tr V nv N)) ∧ ∃ K F, soA V nv al al1 i n K F ∧ (ls (hl K F r c y.toNat) n).Perm (l.map en) ∧ shl K r y x
section SR
variable {V : Nat → Nat} {nv i n : Nat} {ai : Nat → Nat → Int} {al al1 al2 al3 : Nat → Nat → Int64} {l : Po} {K F : Nat → Int64} {c k r : Int64} {x y : Int}
theorem so_0 (hL : qL V nv ai al i l) (hg : ∀ x, x ∈ l → x.1 < 256 ^ nv ∧ x.1 < 2 ^ 63) (hn : n = l.length) : soO V nv al al i n l 1 := by
  subst hn
  have h1 := hL.1
  refine ⟨fun t => Int64.ofNat (l.getD t (0, 0)).1, fun t => al 243 (60 * i + t), ⟨⟨fun _ _ _ => rfl, fun _ _ _ => rfl⟩, fun t ht => ?_, fun t _ => rfl⟩, ?_, fun j hj => by omega⟩
  · obtain ⟨z, q1, q2, q3, q4⟩ := q_at hL ht
    refine ⟨z.1, ?_, hg z q4, q3⟩
    show Int64.ofNat (l.getD t (0, 0)).1 = Int64.ofNat z.1
    rw [List.getD_eq_getElem?_getD, q1]
    rfl
  · have e : ls (fun t => (Int64.ofNat (l.getD t (0, 0)).1, al 243 (60 * i + t))) l.length = l.map en := by
      have e1 : ls (fun t => en (l.getD t (0, 0))) l.length = l.map en := by
        rw [← ls_map en]
        congr 1
        apply List.ext_getElem?
        intro t
        by_cases ht : t < l.length
        · have h2 : ∀ (m : Nat), t < m → (ls (fun t => l.getD t (0, 0)) m)[t]? = some (l.getD t (0, 0)) := by
            intro m
            induction m with
            | zero => intro q; omega
            | succ m ih =>
              intro q
              show (ls (fun t => l.getD t (0, 0)) m ++ [l.getD m (0, 0)])[t]? = _
              by_cases e : t = m
              · subst e
                rw [List.getElem?_append_right (by rw [ls_len]; omega), ls_len, Nat.sub_self]
                rfl
              · rw [List.getElem?_append_left (by rw [ls_len]; omega)]
                exact ih (by omega)
          rw [h2 _ ht, List.getD_eq_getElem?_getD, List.getElem?_eq_getElem ht]
          rfl
        · rw [List.getElem?_eq_none (by rw [ls_len]; omega), List.getElem?_eq_none (by omega)]
      rw [← e1]
      refine ls_cg _ fun t ht => ?_
      obtain ⟨z, q1, q2, q3, q4⟩ := q_at hL ht
      have e2 : l.getD t (0, 0) = z := by rw [List.getD_eq_getElem?_getD, q1]; rfl
      rw [e2, q2]
      rfl
    rw [e]
theorem so_in {N : Nat} (h : soA V nv al al1 i n K F) (hp : (ls (fun t => (K t, F t)) n).Perm (l.map en)) (hs : srt K x) (hx : 0 ≤ x ∧ x < (n : Int)) (hN : K x.toNat = Int64.ofNat N ∧ (N < 256 ^ nv ∧ N < 2 ^ 63) ∧ al1 244 (60 * i + x.toNat) = Int64.ofNat (tr V nv N)) (hc : c = al1 243 (60 * i + x.toNat)) (hk : k = al1 244 (60 * i + x.toNat)) : soN V nv al al1 i n l c k (Int64.ofNat N) x x := by
  refine ⟨⟨N, rfl, hN.2.1, hk.trans hN.2.2⟩, K, F, h, ?_, shl_0 hs⟩
  rw [hl_0 (by exact hN.1) (by rw [hc, h.2.2 _ (by omega)])]
  exact hp
theorem soA_u {m : Nat} {kk cc : Int64} {N : Nat} (h : soA V nv al al1 i n K F) (hm : m < n) (hn : n ≤ 60) (hN : (N < 256 ^ nv ∧ N < 2 ^ 63) ∧ kk = Int64.ofNat (tr V nv N)) (e1 : al2 = u2 al1 243 (60 * i + m) cc) (e2 : al3 = u2 al2 244 (60 * i + m) kk) : soA V nv al al3 i n (vp_updL K m (Int64.ofNat N)) (vp_updL F m cc) := by
  refine ⟨⟨fun a a1 a2 => by rw [e2, u2_af a2, e1, u2_af a1]; exact h.1.1 a a1 a2, fun a j hj => ?_⟩, fun t ht => ?_, fun t ht => ?_⟩
  · rw [← h.1.2 a j hj, e2]
    unfold u2
    rw [if_neg (by omega), e1]
    unfold u2
    rw [if_neg (by omega)]
  · by_cases e : t = m
    · subst e
      exact ⟨N, up_s, hN.1, by rw [e2, u2_s]; exact hN.2⟩
    · obtain ⟨M, q1, q2, q3⟩ := h.2.1 t ht
      exact ⟨M, by rw [up_o e]; exact q1, q2, by rw [e2, u2_o (by omega), e1, u2_af (by decide)]; exact q3⟩
  · rw [e2, u2_af (by decide)]
    by_cases e : t = m
    · subst e
      rw [e1, u2_s, up_s]
    · rw [e1, u2_o (by omega), up_o e]
      exact h.2.2 t ht
theorem so_sh {N : Nat} {m m1 : Nat} (h : soA V nv al al1 i n K F) (hr : ∃ N, r = Int64.ofNat N ∧ (N < 256 ^ nv ∧ N < 2 ^ 63) ∧ k = Int64.ofNat (tr V nv N)) (hp : (ls (hl K F r c y.toNat) n).Perm (l.map en)) (hs : shl K r y x) (hy : 0 < y ∧ y ≤ x ∧ x < (n : Int)) (hn : n ≤ 60) (hN : K (y - 1).toNat = Int64.ofNat N ∧ (N < 256 ^ nv ∧ N < 2 ^ 63) ∧ al1 244 (60 * i + (y - 1).toNat) = Int64.ofNat (tr V nv N)) (hlt : (Int64.ofNat N).toInt < r.toInt) (hm : m = 60 * i + y.toNat) (hm1 : m1 = 60 * i + (y - 1).toNat) (e1 : al2 = u2 al1 243 m (al1 243 m1)) (e2 : al3 = u2 al2 244 m (al2 244 m1)) : soN V nv al al3 i n l c k r (y - 1) x := by
  subst hm hm1
  refine ⟨hr, vp_updL K y.toNat (Int64.ofNat N), vp_updL F y.toNat (al1 243 (60 * i + (y - 1).toNat)), soA_u h (by omega) hn ⟨hN.2.1, ?_⟩ e1 e2, ?_, ?_⟩
  · rw [e1, u2_af (by decide)]; exact hN.2.2
  · refine (hl_step (K := K) (F := F) (key := r) (f := c) (y := y) ⟨hy.1, by omega⟩ (by rw [hN.1]) (by rw [h.2.2 _ (by omega)])).trans hp
  · exact shl_step hs ⟨hy.1, hy.2.1⟩ (by rw [hN.1]; exact hlt) (by rw [hN.1])
theorem so_end {m : Nat} (h : soN V nv al al1 i n l c k r y x) (hy : 0 ≤ y ∧ y ≤ x ∧ x < (n : Int)) (hn : n ≤ 60) (hk : y = 0 ∨ ∀ N, al1 244 (60 * i + (y - 1).toNat) = Int64.ofNat (tr V nv N) → N < 256 ^ nv → r.toInt ≤ (Int64.ofNat N).toInt) (hm : m = 60 * i + y.toNat) (e1 : al2 = u2 al1 243 m c) (e2 : al3 = u2 al2 244 m k) : soO V nv al al3 i n l (x + 1) := by
  subst hm
  obtain ⟨⟨N, q1, q2, q3⟩, K, F, h1, h2, h3⟩ := h
  refine ⟨vp_updL K y.toNat (Int64.ofNat N), vp_updL F y.toNat c, soA_u h1 (by omega) hn ⟨q2, q3⟩ e1 e2, ?_, ?_⟩
  · rw [hl_end (K := K) (F := F) (key := r) (f := c) (j := y.toNat) (by rw [q1]) rfl]
    exact h2
  · refine shl_end h3 ⟨hy.1, hy.2.1⟩ ?_ (by rw [q1])
    rcases hk with z | z
    · exact Or.inl z
    · by_cases y0 : y = 0
      · exact Or.inl y0
      · obtain ⟨M, m1, m2, m3⟩ := h1.2.1 (y - 1).toNat (by omega)
        right
        rw [m1]
        exact z M m3 m2.1
theorem ls_pw {α : Type} {g : Nat → α} {R : α → α → Prop} : ∀ n : Nat, (∀ a b, a < b → b < n → R (g a) (g b)) → (ls g n).Pairwise R := by
  intro n
  induction n with
  | zero => intro _; exact List.Pairwise.nil
  | succ n ih =>
    intro h
    refine List.pairwise_append.mpr ⟨ih fun a b h1 h2 => h a b h1 (by omega), List.pairwise_singleton _ _, fun a ha b hb => ?_⟩
    obtain ⟨t, ht, e⟩ := (ls_mem _).mp ha
    rw [List.mem_singleton.mp hb, ← e]
    exact h t n ht (by omega)
theorem srtR_le (h : srt K x) : ∀ b a : Nat, a ≤ b → (b : Int) < x → (K b).toInt ≤ (K a).toInt := by
  intro b
  induction b with
  | zero => intro a h1 _; rw [Nat.le_zero.mp h1]; omega
  | succ b ih =>
    intro a h1 h2
    by_cases e : a = b + 1
    · rw [e]; omega
    · have := ih a (by omega) (by omega)
      have := h b (by omega)
      omega
theorem so_fin (h : soO V nv al al1 i n l x) (hx : (n : Int) ≤ x) (hn : ai 242 i = (n : Int)) (hg : ∀ x, x ∈ l → x.1 < 256 ^ nv ∧ x.1 < 2 ^ 63) : slF al al1 i ∧ ∃ l1, l1.Perm l ∧ l1.Pairwise (fun x y => y.1 ≤ x.1) ∧ qL V nv ai al1 i l1 := by
  obtain ⟨K, F, h1, h2, h3⟩ := h
  have hd : ∀ t, t < n → K t = Int64.ofNat (K t).toInt.toNat ∧ (K t).toInt = ((K t).toInt.toNat : Int) ∧ al1 244 (60 * i + t) = Int64.ofNat (tr V nv (K t).toInt.toNat) := fun t ht => by
    obtain ⟨N, q1, q2, q3⟩ := h1.2.1 t ht
    have e := on_int q2.2
    rw [← q1] at e
    rw [show (K t).toInt.toNat = N by omega]
    exact ⟨q1, e, q3⟩
  have e1 : (ls (fun t => ((K t).toInt.toNat, F t)) n).map en = ls (fun t => (K t, F t)) n := by
    rw [ls_map]
    refine ls_cg _ fun t ht => ?_
    show (Int64.ofNat (K t).toInt.toNat, F t) = (K t, F t)
    rw [← (hd t ht).1]
  refine ⟨h1.1, ls (fun t => ((K t).toInt.toNat, F t)) n, ?_, ?_, ?_, ?_⟩
  · have h4 := h2.map (fun z : Int64 × Int64 => (z.1.toInt.toNat, z.2))
    have e2 : (ls (fun t => (K t, F t)) n).map (fun z : Int64 × Int64 => (z.1.toInt.toNat, z.2)) = ls (fun t => ((K t).toInt.toNat, F t)) n := ls_map _ n
    rw [e2, List.map_map] at h4
    have e3 : l.map ((fun z : Int64 × Int64 => (z.1.toInt.toNat, z.2)) ∘ en) = l := by
      have : ∀ x, x ∈ l → ((fun z : Int64 × Int64 => (z.1.toInt.toNat, z.2)) ∘ en) x = x := fun x hx => by
        show ((Int64.ofNat x.1).toInt.toNat, x.2) = x
        rw [on_int (hg x hx).2, Int.toNat_natCast]
      rw [List.map_congr_left this]
      exact List.map_id' l
    rw [e3] at h4
    exact h4
  · refine ls_pw n fun a b ha hb => ?_
    have := srtR_le h3 b a (by omega) (by omega)
    have q1 := (hd a (by omega)).2.1
    have q2 := (hd b hb).2.1
    show (K b).toInt.toNat ≤ (K a).toInt.toNat
    omega
  · rw [ls_len]; exact hn
  · rw [ls_len, ls_map]
    refine ls_cg _ fun t ht => ?_
    have e : enR V nv ((K t).toInt.toNat, F t) = (Int64.ofNat (tr V nv (K t).toInt.toNat), F t) := rfl
    rw [e, (hd t ht).2.2, h1.2.2 t ht]
end SR
theorem so_x {i x : Int} (hi : 0 ≤ i) (hx : 0 ≤ x) : (60 * i + x).toNat = 60 * i.toNat + x.toNat := by omega
theorem so_x1 {i x : Int} (hi : 0 ≤ i) (hx : 0 < x) : (60 * i + x - 1).toNat = 60 * i.toNat + (x - 1).toNat := by omega
theorem so_ge {V : Nat → Nat} {nv N M : Nat} {r : Int64} {q : Int} (hV : pmV V nv) (hN : N < 256 ^ nv) (hM : M < 256 ^ nv) (e : Int64.ofNat (tr V nv M) = Int64.ofNat (tr V nv N)) (h2 : q < 0 ↔ Int64.ofNat N < r) (hq : 0 ≤ q) : r.toInt ≤ (Int64.ofNat M).toInt := by
  have e3 := congrArg (fun z => z.toBitVec.toNat) e
  have e3 : (Int64.ofNat (tr V nv M)).toBitVec.toNat = (Int64.ofNat (tr V nv N)).toBitVec.toNat := e3
  rw [on_bv tr_64, on_bv tr_64] at e3
  rw [tr_inj hV hM hN e3]
  have : ¬ Int64.ofNat N < r := fun z => by have := h2.mpr z; omega
  rw [Int64.lt_iff_toInt_lt] at this
  omega
