/-! The reference's small methods. -/
theorem cg_s {x y r : Int64} (hx : 0 ≤ x.toInt ∧ x.toInt ≤ 67108864) (hy : 0 < y.toInt ∧ y.toInt ≤ 67108864) (hr : r = x - x / y * y) : (0 ≤ r.toInt ∧ r.toInt ≤ 67108864) ∧ r.toInt < y.toInt ∧ Nat.gcd y.toInt.natAbs r.toInt.natAbs = Nat.gcd x.toInt.natAbs y.toInt.natAbs := by
  have hm := rem_i hx hy
  rw [← hr] at hm
  have h5 : x.toInt.natAbs % y.toInt.natAbs < y.toInt.natAbs := Nat.mod_lt _ (by omega)
  refine ⟨by omega, by omega, ?_⟩
  have e : r.toInt.natAbs = x.toInt.natAbs % y.toInt.natAbs := by omega
  rw [e, Nat.gcd_comm, ← Nat.gcd_rec, Nat.gcd_comm]
section RC
variable {V : Nat → Nat} {nv i : Nat} {ai ai1 : Nat → Nat → Int} {al al1 al2 : Nat → Nat → Int64} {l : Po}
theorem gck_G {F : Nat → Int64} : ∀ (n : Nat) (l : Po), l.length = n → (∀ t, t < n → ∃ x, l[t]? = some x ∧ F t = x.2) → gck F n = gcP l := by
  intro n
  induction n with
  | zero =>
    intro l hl _
    rw [List.eq_nil_of_length_eq_zero hl]
    rfl
  | succ n ih =>
    intro l hl h
    obtain ⟨l0, x, rfl, hl0⟩ := snoc_of hl
    have h5 := ih l0 hl0 fun t ht => by
      obtain ⟨y, q1, q2⟩ := h t (by omega)
      rw [List.getElem?_append_left (by omega)] at q1
      exact ⟨y, q1, q2⟩
    obtain ⟨y, q1, q2⟩ := h n (by omega)
    rw [List.getElem?_append_right (by omega), hl0, Nat.sub_self] at q1
    have e : x = y := Option.some.inj q1
    subst e
    show Nat.gcd (F n).toInt.natAbs (gck F n) = _
    rw [gcP_snoc, h5, q2, Nat.gcd_comm]
theorem q_at (h : qL V nv ai al i l) {t : Nat} (ht : t < l.length) : ∃ x, l[t]? = some x ∧ al 243 (60 * i + t) = x.2 ∧ al 244 (60 * i + t) = Int64.ofNat (tr V nv x.1) ∧ x ∈ l := by
  have h1 := h.1
  obtain ⟨y, q1, q2, q3, q4⟩ := qx h (x := (t : Int)) (by omega)
  rw [Int.toNat_natCast] at q1 q2 q3
  refine ⟨y, ?_, q3, q2, q4⟩
  have h4 := List.drop_eq_getElem_cons ht
  rw [h4] at q1
  rw [List.getElem?_eq_getElem ht, (List.cons.inj q1).1]
theorem q_gc (h : qL V nv ai al i l) : gck (fun t => al 243 (60 * i + t)) l.length = gcP l := gck_G _ l rfl fun t ht => by
  obtain ⟨x, q1, q2, _⟩ := q_at h ht
  exact ⟨x, q1, q2⟩
theorem q_sg (h : qL V nv ai al i l) (hn : l ≠ []) : sgk (fun t => al 243 (60 * i + t)) l.length = sgP l := by
  have h1 := q_gc h
  cases l with
  | nil => exact absurd rfl hn
  | cons x l =>
    obtain ⟨y, q1, q2, _⟩ := q_at h (t := 0) (Nat.zero_lt_succ _)
    have e : x = y := Option.some.inj q1
    subst e
    unfold sgk
    rw [h1]
    show (if (al 243 (60 * i + 0)).toInt < 0 then _ else _) = (if x.2.toInt < 0 then _ else _)
    rw [q2]
/-- what making primitive leaves -/
def prI (al al1 : Nat → Nat → Int64) (i : Nat) (y : Int64) (x : Int) : Prop := (∀ a, a ≠ 243 → al1 a = al a) ∧ (∀ t : Nat, (t : Int) < x → al1 243 (60 * i + t) = al 243 (60 * i + t) / y) ∧ ∀ j, j < 60 * i ∨ 60 * i + x.toNat ≤ j → al1 243 j = al 243 j
theorem prI_0 {y : Int64} : prI al al i y 0 := ⟨fun _ _ => rfl, fun t h => by omega, fun _ _ => rfl⟩
theorem prI_s {y v : Int64} {x : Int} {m : Nat} (h : prI al al1 i y x) (hx : 0 ≤ x) (hm : m = 60 * i + x.toNat) (hv : v = al1 243 m / y) (hd : al2 = u2 al1 243 m v) : prI al al2 i y (x + 1) := by
  subst hm
  refine ⟨fun a ha => by rw [hd, u2_af ha]; exact h.1 a ha, fun t ht => ?_, fun j hj => ?_⟩
  · by_cases e : t = x.toNat
    · rw [e, hd, u2_s, hv, h.2.2 _ (by omega)]
    · rw [hd, u2_o (by omega)]
      exact h.2.1 t (by omega)
  · rw [hd, u2_o (by omega)]
    exact h.2.2 j (by omega)
def prR (V : Nat → Nat) (nv : Nat) (ai : Nat → Nat → Int) (al al1 : Nat → Nat → Int64) (i : Nat) (l : Po) : Prop := (∀ a, a ≠ 243 → al1 a = al a) ∧ (∀ j, j < 60 * i ∨ 60 * i + 60 ≤ j → al1 243 j = al 243 j) ∧ qL V nv ai al1 i l
theorem map_en {y : Int64} : (l.map fun x => (x.1, x.2 / y)).map (enR V nv) = (l.map (enR V nv)).map fun z => (z.1, z.2 / y) := by
  rw [List.map_map, List.map_map]
  rfl
theorem prR_e {y : Int64} {x : Int} (h : prI al al1 i y x) (hL : qL V nv ai al i l) (hx : x = ai 242 i) (h60 : l.length ≤ 60) (hy : l ≠ [] → y.toInt = sgP l) : prR V nv ai al al1 i (prP l) := by
  have h1 := hL.1
  refine ⟨h.1, fun j hj => h.2.2 j (by omega), ?_, ?_⟩
  · unfold prP
    rw [List.length_map]
    exact h1
  · by_cases hn : l = []
    · subst hn
      rfl
    · have e : Int64.ofInt (sgP l) = y := by rw [← hy hn]; exact Int64.ofInt_toInt _
      have e1 : (prP l).length = l.length := by unfold prP; rw [List.length_map]
      have e2 : (prP l).map (enR V nv) = (l.map (enR V nv)).map fun z => (z.1, z.2 / y) := by
        unfold prP
        rw [e]
        exact map_en
      rw [e1, e2, ← hL.2, ls_map]
      refine ls_cg _ fun t ht => ?_
      rw [h.1 244 (by decide), h.2.1 t (by omega)]
/-- the same -/
theorem qsame {a b : Nat} {f g : Po} (hf : qL V nv ai al a f) (hg : qL V nv ai al b g) (hV : pmV V nv) (gf : ∀ x, x ∈ f → x.1 < 256 ^ nv) (gg : ∀ x, x ∈ g → x.1 < 256 ^ nv) : (ai 242 a = ai 242 b ∧ ∀ t : Nat, (t : Int) < ai 242 a → al 243 (60 * a + t) = al 243 (60 * b + t) ∧ al 244 (60 * a + t) = al 244 (60 * b + t)) ↔ f = g := by
  have h1 := hf.1
  have h2 := hg.1
  constructor
  · rintro ⟨e1, e2⟩
    have hl : f.length = g.length := by omega
    apply List.ext_getElem? 
    intro t
    by_cases ht : t < f.length
    · obtain ⟨x, q1, q2, q3, q4⟩ := q_at hf ht
      obtain ⟨y, r1, r2, r3, r4⟩ := q_at hg (t := t) (by omega)
      have h3 := e2 t (by omega)
      rw [q2, r2, q3, r3] at h3
      rw [q1, r1]
      have e3 := congrArg (fun z => z.toBitVec.toNat) h3.2
      have e3 : (Int64.ofNat (tr V nv x.1)).toBitVec.toNat = (Int64.ofNat (tr V nv y.1)).toBitVec.toNat := e3
      rw [on_bv tr_64, on_bv tr_64] at e3
      rw [Prod.ext (tr_inj hV (gf x q4) (gg y r4) e3) h3.1]
    · rw [List.getElem?_eq_none (by omega), List.getElem?_eq_none (by omega)]
  · intro e
    subst e
    refine ⟨by omega, fun t ht => ?_⟩
    obtain ⟨x, q1, q2, q3, q4⟩ := q_at hf (t := t) (by omega)
    obtain ⟨y, r1, r2, r3, r4⟩ := q_at hg (t := t) (by omega)
    rw [q1] at r1
    have e : x = y := Option.some.inj r1
    subst e
    rw [q2, r2, q3, r3]
    exact ⟨rfl, rfl⟩
/-- the lead -/
def ldL (l : Po) (p d : Nat) : Po := (lds l p d).map fun x => (x.1 - d * 256 ^ p, x.2)
def ldI (V : Nat → Nat) (nv : Nat) (al al1 : Nat → Nat → Int64) (l : Po) (p d : Nat) (x4 x5 : Int) : Prop := ((∀ a, a ≠ 243 → a ≠ 244 → al1 a = al a) ∧ ∀ a j, j < 4200 ∨ 4260 ≤ j → al1 a j = al a j) ∧ ∃ O : Po, x4 = (O.length : Int) ∧ ls (fun t => (al1 244 (60 * 70 + t), al1 243 (60 * 70 + t))) O.length = O.map (enR V nv) ∧ O ++ ldL (l.drop x5.toNat) p d = ldL l p d
theorem ldI_0 {p d : Nat} : ldI V nv al al l p d 0 0 := ⟨⟨fun _ _ _ => rfl, fun _ _ _ => rfl⟩, [], rfl, rfl, rfl⟩
theorem lsR_push {K F : Nat → Int64} {O : Po} {x : Nat × Int64} (h : ls (fun t => (K t, F t)) O.length = O.map (enR V nv)) {K1 F1 : Nat → Int64} (hK : ∀ t, t < O.length → K1 t = K t ∧ F1 t = F t) (h1 : K1 O.length = Int64.ofNat (tr V nv x.1)) (h2 : F1 O.length = x.2) : ls (fun t => (K1 t, F1 t)) (O ++ [x]).length = (O ++ [x]).map (enR V nv) := by
  rw [List.length_append, List.map_append, ← h]
  show ls _ O.length ++ [(K1 O.length, F1 O.length)] = ls (fun t => (K t, F t)) O.length ++ [enR V nv x]
  have e : (K1 O.length, F1 O.length) = enR V nv x := by
    unfold enR
    rw [h1, h2]
  rw [e]
  congr 1
  exact ls_cg _ fun t ht => by rw [(hK t ht).1, (hK t ht).2]
theorem ldI_n {p d : Nat} {x4 x5 : Int} (h : ldI V nv al al1 l p d x4 x5) (hL : qL V nv ai al i l) (hV : pmV V nv) (hp : p < nv) (h0 : 0 ≤ x5 ∧ x5 < ai 242 i) (hd : pw (al 244 (60 * i + x5.toNat)) (V p : Int) ≠ (d : Int)) : ldI V nv al al1 l p d x4 (x5 + 1) := by
  obtain ⟨h1, O, h2, h3, h4⟩ := h
  obtain ⟨y, q1, q2, q3, q4⟩ := qx hL h0
  rw [q2, pw_tr hV hp] at hd
  refine ⟨h1, O, h2, h3, ?_⟩
  rw [q1] at h4
  unfold ldL at h4 ⊢
  rw [ld_lo (by omega)] at h4
  exact h4
theorem ldI_y {p d : Nat} {x4 x5 : Int} {m r : Nat} {k : Int64} (h : ldI V nv al al1 l p d x4 x5) (hL : qL V nv ai al i l) (hV : pmV V nv) (hg : ∀ x, x ∈ l → x.1 < 256 ^ nv) (hp : p < nv) (h0 : 0 ≤ x5 ∧ x5 < ai 242 i) (h4 : 0 ≤ x4 ∧ x4 < 60) (hi : i ≠ 70 ∧ i < 72) (h60 : ai 242 i ≤ 60) (hd : pw (al 244 (60 * i + x5.toNat)) (V p : Int) = (d : Int)) (hr : r = 60 * i + x5.toNat) (hm : m = 60 * 70 + x4.toNat) (e1 : al2 = u2 al1 243 m (al1 243 r)) {al3 : Nat → Nat → Int64} (hk : k = al 244 r) (e2 : al3 = u2 al2 244 m (k &&& ((Int64.ofNat 255 <<< ((vz (8 * (V p : Int))).toInt64 &&& 63)) ^^^ Int64.ofNat 18446744073709551615))) : ldI V nv al al3 l p d (x4 + 1) (x5 + 1) := by
  subst hr hm
  obtain ⟨h1, O, h2, h3, h5⟩ := h
  obtain ⟨y, q1, q2, q3, q4⟩ := qx hL h0
  rw [q2, pw_tr hV hp] at hd
  have hd : dgt y.1 p = d := by omega
  have hv := hV.2.1 p hp
  have ek : (k &&& ((Int64.ofNat 255 <<< ((vz (8 * (V p : Int))).toInt64 &&& 63)) ^^^ Int64.ofNat 18446744073709551615)) = Int64.ofNat (tr V nv (y.1 - d * 256 ^ p)) := by
    rw [hk, q2, clr_d tr_64 hv, dgt_trV hV hp, hd, (tr_sub hV (hg y q4) hp (Nat.le_of_eq hd.symm)).2]
  rw [ek] at e2
  refine ⟨⟨fun a a1 a2 => by rw [e2, u2_af a2, e1, u2_af a1]; exact h1.1 a a1 a2, fun a j hj => ?_⟩, O ++ [(y.1 - d * 256 ^ p, y.2)], by rw [List.length_append, h2]; rfl, ?_, ?_⟩
  · rw [← h1.2 a j hj, e2]
    unfold u2
    rw [if_neg (by omega), e1]
    unfold u2
    rw [if_neg (by omega)]
  · refine lsR_push (x := (y.1 - d * 256 ^ p, y.2)) (K := fun t => al1 244 (60 * 70 + t)) (F := fun t => al1 243 (60 * 70 + t)) (K1 := fun t => al3 244 (60 * 70 + t)) (F1 := fun t => al3 243 (60 * 70 + t)) h3 (fun t ht => ⟨?_, ?_⟩) ?_ ?_
    · show al3 244 (60 * 70 + t) = al1 244 (60 * 70 + t)
      rw [e2, u2_o (by omega), e1, u2_af (by decide)]
    · show al3 243 (60 * 70 + t) = al1 243 (60 * 70 + t)
      rw [e2, u2_af (by decide), e1, u2_o (by omega)]
    · show al3 244 (60 * 70 + O.length) = Int64.ofNat (tr V nv (y.1 - d * 256 ^ p))
      rw [e2, show 60 * 70 + O.length = 60 * 70 + x4.toNat by omega, u2_s]
    · show al3 243 (60 * 70 + O.length) = y.2
      rw [e2, u2_af (by decide), e1, show 60 * 70 + O.length = 60 * 70 + x4.toNat by omega, u2_s, h1.2 243 _ (by omega), q3]
  · rw [q1] at h5
    unfold ldL at h5 ⊢
    rw [ld_hi hd] at h5
    rw [List.append_assoc]
    exact h5
def ldQ (V : Nat → Nat) (nv : Nat) (ai ai1 : Nat → Nat → Int) (al al1 : Nat → Nat → Int64) (l : Po) : Prop := ((∀ a, a ≠ 243 → a ≠ 244 → al1 a = al a) ∧ ∀ a j, j < 4200 ∨ 4260 ≤ j → al1 a j = al a j) ∧ ai1 = u2 ai 242 70 (l.length : Int) ∧ qL V nv ai1 al1 70 l
theorem ldQ_e {p d : Nat} {x4 x5 : Int} (h : ldI V nv al al1 l p d x4 x5) (hx : x5 = ai 242 i) (hL : qL V nv ai al i l) (e : ai1 = u2 ai 242 70 x4) : ldQ V nv ai ai1 al al1 (ldL l p d) := by
  obtain ⟨h1, O, h2, h3, h4⟩ := h
  have h5 := hL.1
  rw [List.drop_eq_nil_of_le (by omega)] at h4
  have e1 : O = ldL l p d := by
    have h6 : O ++ [] = ldL l p d := h4
    rwa [List.append_nil] at h6
  subst e1
  exact ⟨h1, by rw [e, h2], by rw [e, u2_s, h2], h3⟩
end RC
theorem rk_o {ai : Nat → Nat → Int} {x : Int} (h : tmok ai) (_ : 0 ≤ x) : ai 240 x.toNat = (vR ai x.toNat : Int) := by
  have := (h.2 x.toNat).1
  show ai 240 x.toNat = ((ai 240 x.toNat).toNat : Int)
  omega
theorem pr_ix {i x : Int} (hi : 0 ≤ i) (hx : 0 ≤ x) : (60 * i + x).toNat = 60 * i.toNat + x.toNat := by omega
theorem pr_i0 {i : Int} (hi : 0 ≤ i) : (60 * i).toNat = 60 * i.toNat + 0 := by omega
theorem ld_ix {i x : Int} (hi : 0 ≤ i) (hx : 0 ≤ x) : (60 * i + x).toNat = 60 * i.toNat + x.toNat := by omega
theorem ld_i4 {x : Int} (hx : 0 ≤ x) : (4200 + x).toNat = 60 * 70 + x.toNat := by omega
theorem gk_s {F : Nat → Int64} {x : Int} {y g c : Int64} (hx : 0 ≤ x) (hy : y.toInt = (gck F x.toNat : Int)) (hc : c = F x.toNat) (hg : g.toInt = ((Nat.gcd y.toInt.natAbs c.toInt.natAbs : Nat) : Int)) : g.toInt = (gck F (x + 1).toNat : Int) := by
  rw [hg, show (x + 1).toNat = x.toNat + 1 by omega, hy, hc, Nat.gcd_comm]
  rfl
theorem pr_b {al : Nat → Nat → Int64} {i : Int} {n x : Int} (h : ∀ t : Nat, (t : Int) < n → gl (al 243 (60 * i.toNat + t))) (hi : 0 ≤ i) (hx : 0 ≤ x) (hn : x < n) : -67108864 ≤ (al 243 (60 * i + x).toNat).toInt ∧ (al 243 (60 * i + x).toNat).toInt ≤ 67108864 := by
  rw [pr_ix hi hx]
  exact (h x.toNat (by omega)).2
theorem pr_sy {V : Nat → Nat} {nv i m : Nat} {ai : Nat → Nat → Int} {al : Nat → Nat → Int64} {l : Po} {y w : Int64} (hL : qL V nv ai al i l) (hg : gk nv l) (hn : l ≠ []) (hm : m = 60 * i + 0) (hy : y.toInt = (gck (fun t => al 243 (60 * i + t)) l.length : Int)) (hw : ((al 243 m).toInt < 0 ∧ w.toInt = -y.toInt) ∨ (¬ (al 243 m).toInt < 0 ∧ w.toInt = y.toInt)) : w.toInt = sgP l := by
  subst hm
  rw [← q_sg hL hn]
  unfold sgk
  rcases hw with ⟨h1, h2⟩ | ⟨h1, h2⟩
  · rw [if_pos h1, h2, hy]
  · rw [if_neg h1, h2, hy]
theorem sm_x {a b x : Int} {f : Nat → Int64} (ha : 0 ≤ a) (hb : 0 ≤ b) (hx : 0 ≤ x) (h : f (60 * a + x).toNat = f (60 * b + x).toNat) : f (60 * a.toNat + x.toNat) = f (60 * b.toNat + x.toNat) := by
  rw [pr_ix ha hx, pr_ix hb hx] at h
  exact h
theorem sm_y {a b x : Int} {f : Nat → Int64} (ha : 0 ≤ a) (hb : 0 ≤ b) (hx : 0 ≤ x) (h : f (60 * a.toNat + x.toNat) = f (60 * b.toNat + x.toNat)) : f (60 * a + x).toNat = f (60 * b + x).toNat := by
  rw [pr_ix ha hx, pr_ix hb hx]
  exact h
