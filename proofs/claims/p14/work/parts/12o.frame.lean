/-! What a call may change of the reference's cells, and what stays true of them. -/
def gl (c : Int64) : Prop := c.toInt ≠ 0 ∧ -67108864 ≤ c.toInt ∧ c.toInt ≤ 67108864
def gd (ai : Nat → Nat → Int) (al : Nat → Nat → Int64) : Prop := ∀ s t : Nat, s < 72 → (t : Int) < ai 242 s → gl (al 243 (60 * s + t))
def gj (sc : Nat → Int) (ai : Nat → Nat → Int) (al : Nat → Nat → Int64) (_ : Nat → Nat → Int32) : Prop := ((0 ≤ sc 1 ∧ sc 1 ≤ 8) ∧ (0 ≤ sc 4 ∧ sc 4 ≤ 16)) ∧ gd ai al
def gi (sc : Nat → Int) (ai : Nat → Nat → Int) (al : Nat → Nat → Int64) (az : Nat → Nat → Int32) : Prop := gj sc ai al az ∧ sc 38 = 0 ∧ ∀ j, az 259 j = 0
def fr (X Y : List Nat) (lo hi : Nat) (sc : Nat → Int) (ai : Nat → Nat → Int) (al : Nat → Nat → Int64) (az : Nat → Nat → Int32) (sc1 : Nat → Int) (ai1 : Nat → Nat → Int) (al1 : Nat → Nat → Int64) (az1 : Nat → Nat → Int32) : Prop := (∀ j, X.contains j = false → sc1 j = sc j) ∧ (∀ a, Y.contains a = false → a ≠ 242 → ai1 a = ai a) ∧ (∀ a, Y.contains a = false → a ≠ 243 → a ≠ 244 → al1 a = al a) ∧ (∀ s, s < lo ∨ hi < s → ai1 242 s = ai 242 s ∧ ∀ t, t < 60 → al1 243 (60 * s + t) = al 243 (60 * s + t) ∧ al1 244 (60 * s + t) = al 244 (60 * s + t)) ∧ (∀ a, Y.contains a = false → az1 a = az a)
section FR
variable {X Y X2 Y2 : List Nat} {lo hi lo2 hi2 : Nat} {sc0 sc sc2 : Nat → Int} {ai0 ai ai2 : Nat → Nat → Int} {al0 al al2 : Nat → Nat → Int64} {az0 az az2 : Nat → Nat → Int32} {a i : Nat}
theorem fr_0 (X Y : List Nat) (lo hi : Nat) (sc : Nat → Int) (ai : Nat → Nat → Int) (al : Nat → Nat → Int64) (az : Nat → Nat → Int32) : fr X Y lo hi sc ai al az sc ai al az := ⟨fun _ _ => rfl, fun _ _ _ => rfl, fun _ _ _ _ => rfl, fun _ _ => ⟨rfl, fun _ _ => ⟨rfl, rfl⟩⟩, fun _ _ => rfl⟩
theorem fr_s {y : Nat} {v : Int} (h : fr X Y lo hi sc0 ai0 al0 az0 sc ai al az) (hd : sc2 = u1 sc y v) (hy : X.contains y = true) : fr X Y lo hi sc0 ai0 al0 az0 sc2 ai al az := by
  refine ⟨fun j hj => ?_, h.2⟩
  have : j ≠ y := fun e => by rw [e, hy] at hj; cases hj
  rw [hd, u1_o this]
  exact h.1 j hj
theorem fr_i {v : Int} (h : fr X Y lo hi sc0 ai0 al0 az0 sc ai al az) (hd : ai2 = u2 ai a i v) (hy : Y.contains a = true) (h2 : (242 : Nat) ≠ a) : fr X Y lo hi sc0 ai0 al0 az0 sc ai2 al az := by
  refine ⟨h.1, fun b hb hb2 => ?_, h.2.2.1, fun s hs => ?_, h.2.2.2.2⟩
  · have : b ≠ a := fun e => by rw [e, hy] at hb; cases hb
    rw [hd, u2_af this]
    exact h.2.1 b hb hb2
  · rw [hd, u2_a h2]
    exact h.2.2.2.1 s hs
theorem fr_c {v : Int} (h : fr X Y lo hi sc0 ai0 al0 az0 sc ai al az) (hd : ai2 = u2 ai 242 i v) (hi_ : lo ≤ i ∧ i ≤ hi) : fr X Y lo hi sc0 ai0 al0 az0 sc ai2 al az := by
  refine ⟨h.1, fun b hb hb2 => ?_, h.2.2.1, fun s hs => ?_, h.2.2.2.2⟩
  · rw [hd, u2_af hb2]
    exact h.2.1 b hb hb2
  · rw [hd, u2_o (by omega)]
    exact h.2.2.2.1 s hs
theorem fr_l {v : Int64} (h : fr X Y lo hi sc0 ai0 al0 az0 sc ai al az) (hd : al2 = u2 al a i v) (hy : Y.contains a = true) (h2 : (243 : Nat) ≠ a ∧ (244 : Nat) ≠ a) : fr X Y lo hi sc0 ai0 al0 az0 sc ai al2 az := by
  refine ⟨h.1, h.2.1, fun b hb hb3 hb4 => ?_, fun s hs => ?_, h.2.2.2.2⟩
  · have : b ≠ a := fun e => by rw [e, hy] at hb; cases hb
    rw [hd, u2_af this]
    exact h.2.2.1 b hb hb3 hb4
  · rw [hd, u2_af h2.1, u2_af h2.2]
    exact h.2.2.2.1 s hs
theorem fr_k {v : Int64} (h : fr X Y lo hi sc0 ai0 al0 az0 sc ai al az) (hd : al2 = u2 al a i v) (ha : a = 243 ∨ a = 244) (hi_ : 60 * lo ≤ i ∧ i < 60 * hi + 60) : fr X Y lo hi sc0 ai0 al0 az0 sc ai al2 az := by
  refine ⟨h.1, h.2.1, fun b hb hb3 hb4 => ?_, fun s hs => ?_, h.2.2.2.2⟩
  · rw [hd, u2_af (by omega)]
    exact h.2.2.1 b hb hb3 hb4
  · refine ⟨(h.2.2.2.1 s hs).1, fun t ht => ?_⟩
    rw [hd, u2_n (by omega), u2_n (by omega)]
    exact (h.2.2.2.1 s hs).2 t ht
theorem fr_z {v : Int32} (h : fr X Y lo hi sc0 ai0 al0 az0 sc ai al az) (hd : az2 = u2 az a i v) (hy : Y.contains a = true) : fr X Y lo hi sc0 ai0 al0 az0 sc ai al az2 := by
  refine ⟨h.1, h.2.1, h.2.2.1, h.2.2.2.1, fun b hb => ?_⟩
  have : b ≠ a := fun e => by rw [e, hy] at hb; cases hb
  rw [hd, u2_af this]
  exact h.2.2.2.2 b hb
theorem fr_sub {A B : List Nat} (h : (A.all fun j => B.contains j) = true) {j : Nat} (hj : B.contains j = false) : A.contains j = false := by
  cases e : A.contains j with
  | false => rfl
  | true =>
    have h1 : B.contains j = true := List.all_eq_true.mp h j (List.contains_iff_mem.mp e)
    rw [hj] at h1
    cases h1
theorem fr_t (h1 : fr X Y lo hi sc0 ai0 al0 az0 sc ai al az) (h2 : fr X2 Y2 lo2 hi2 sc ai al az sc2 ai2 al2 az2) (hX : (X2.all fun j => X.contains j) = true) (hY : (Y2.all fun j => Y.contains j) = true) (hs : hi2 < lo2 ∨ (lo ≤ lo2 ∧ hi2 ≤ hi)) : fr X Y lo hi sc0 ai0 al0 az0 sc2 ai2 al2 az2 := by
  obtain ⟨p1, p2, p3, p4, p5⟩ := h1
  obtain ⟨q1, q2, q3, q4, q5⟩ := h2
  refine ⟨fun j hj => (q1 j (fr_sub hX hj)).trans (p1 j hj), fun b hb hb2 => (q2 b (fr_sub hY hb) hb2).trans (p2 b hb hb2), fun b hb hb2 hb3 => (q3 b (fr_sub hY hb) hb2 hb3).trans (p3 b hb hb2 hb3), fun s hq => ?_, fun b hb => (q5 b (fr_sub hY hb)).trans (p5 b hb)⟩
  have a1 := p4 s hq
  have a2 := q4 s (by omega)
  exact ⟨a2.1.trans a1.1, fun t ht => ⟨((a2.2 t ht).1).trans (a1.2 t ht).1, ((a2.2 t ht).2).trans (a1.2 t ht).2⟩⟩
theorem gj_s {y : Nat} {v : Int} (h : gj sc ai al az) (hd : sc2 = u1 sc y v) (h1 : (1 : Nat) ≠ y) (h4 : (4 : Nat) ≠ y) : gj sc2 ai al az := by
  refine ⟨?_, h.2⟩
  rw [hd, u1_o h1, u1_o h4]
  exact h.1
theorem gj_i {v : Int} (h : gj sc ai al az) (hd : ai2 = u2 ai a i v) (h1 : (242 : Nat) ≠ a) : gj sc ai2 al az := by
  refine ⟨h.1, fun s t hs ht => h.2 s t hs ?_⟩
  rw [hd, u2_a h1] at ht
  exact ht
theorem gj_l {v : Int64} (h : gj sc ai al az) (hd : al2 = u2 al a i v) (h1 : (243 : Nat) ≠ a) : gj sc ai al2 az := by
  refine ⟨h.1, fun s t hs ht => ?_⟩
  rw [hd, u2_a h1]
  exact h.2 s t hs ht
theorem gj_z {v : Int32} (h : gj sc ai al az) (_ : az2 = u2 az a i v) : gj sc ai al az2 := h
theorem gi_s {y : Nat} {v : Int} (h : gi sc ai al az) (hd : sc2 = u1 sc y v) (h1 : (1 : Nat) ≠ y) (h4 : (4 : Nat) ≠ y) (h3 : (38 : Nat) ≠ y) : gi sc2 ai al az := by
  refine ⟨gj_s h.1 hd h1 h4, ?_, h.2.2⟩
  rw [hd, u1_o h3]
  exact h.2.1
theorem gi_i {v : Int} (h : gi sc ai al az) (hd : ai2 = u2 ai a i v) (h1 : (242 : Nat) ≠ a) : gi sc ai2 al az := ⟨gj_i h.1 hd h1, h.2⟩
theorem gi_l {v : Int64} (h : gi sc ai al az) (hd : al2 = u2 al a i v) (h1 : (243 : Nat) ≠ a) : gi sc ai al2 az := ⟨gj_l h.1 hd h1, h.2⟩
theorem gi_z {v : Int32} (h : gi sc ai al az) (hd : az2 = u2 az a i v) (h1 : (259 : Nat) ≠ a) : gi sc ai al az2 := by
  refine ⟨h.1, h.2.1, fun j => ?_⟩
  rw [hd, u2_a h1]
  exact h.2.2 j
/-- a slot is laid anew: its own are good, the rest is as it was -/
theorem gd_new {s : Int} (h : gd ai0 al0) (hs : 0 ≤ s) (hf : fr X Y s.toNat s.toNat sc0 ai0 al0 az0 sc ai al az) (hk : tmok ai) (hn : ∀ t : Nat, (t : Int) < ai 242 s.toNat → gl (al 243 ((60 * s).toNat + t))) : gd ai al := by
  intro p t hp ht
  by_cases e : p = s.toNat
  · subst e
    have e1 : 60 * s.toNat = (60 * s).toNat := by omega
    rw [e1]
    exact hn t ht
  · have q := hf.2.2.2.1 p (by omega)
    have q2 := hk.1 p
    rw [(q.2 t (by omega)).1]
    exact h p t hp (by rw [← q.1]; exact ht)
/-! The main place of a slot: only its own keys count. -/
def mpI (sc : Nat → Int) (ai : Nat → Nat → Int) (al : Nat → Nat → Int64) (az : Nat → Nat → Int32) (s : Int) : Int := mpf (az 239) (ai 240) (fun v => dgf (al 244) (60 * s).toNat v (ai 242 s.toNat).toNat) (sc 1).toNat
theorem dgf_cg {k1 k2 : Nat → Int64} {b1 b2 : Nat} {v : Int} : ∀ n : Nat, (∀ t, t < n → k1 (b1 + t) = k2 (b2 + t)) → dgf k1 b1 v n = dgf k2 b2 v n := by
  intro n
  induction n with
  | zero => intro _; rfl
  | succ n ih =>
    intro h
    simp only [dgf]
    rw [ih fun t ht => h t (by omega), h n (by omega)]
theorem mpI_cg {s1 s2 : Int} (h1 : sc2 1 = sc 1) (h2 : az2 239 = az 239) (h3 : ai2 240 = ai 240) (h4 : ai2 242 s2.toNat = ai 242 s1.toNat) (h5 : ∀ t : Nat, (t : Int) < ai 242 s1.toNat → al2 244 ((60 * s2).toNat + t) = al 244 ((60 * s1).toNat + t)) : mpI sc2 ai2 al2 az2 s2 = mpI sc ai al az s1 := by
  unfold mpI
  rw [h1, h2, h3, h4]
  have e : (fun v => dgf (al2 244) (60 * s2).toNat v (ai 242 s1.toNat).toNat) = fun v => dgf (al 244) (60 * s1).toNat v (ai 242 s1.toNat).toNat := by
    funext v
    exact dgf_cg _ fun t ht => h5 t (by omega)
  rw [e]
theorem mpI_fr {s : Int} (h : fr X Y lo hi sc ai al az sc2 ai2 al2 az2) (hk : tmok ai) (h1 : X.contains 1 = false) (h2 : Y.contains 239 = false) (h3 : Y.contains 240 = false) (hs : 0 ≤ s) (ho : s.toNat < lo ∨ hi < s.toNat) : mpI sc2 ai2 al2 az2 s = mpI sc ai al az s := by
  have q := h.2.2.2.1 s.toNat ho
  have q2 := hk.1 s.toNat
  refine mpI_cg (h.1 1 h1) (h.2.2.2.2 239 h2) (h.2.1 240 h3 (by decide)) q.1 fun t ht => ?_
  have e1 : (60 * s).toNat = 60 * s.toNat := by omega
  rw [e1]
  exact (q.2 t (by omega)).2
theorem mpI_bd (sc : Nat → Int) (ai : Nat → Nat → Int) (al : Nat → Nat → Int64) (az : Nat → Nat → Int32) (s : Int) (h : 0 ≤ sc 1 ∧ sc 1 ≤ 8) : -1 ≤ mpI sc ai al az s ∧ mpI sc ai al az s < sc 1 := by
  have q := mpf_bd (az 239) (ai 240) (fun v => dgf (al 244) (60 * s).toNat v (ai 242 s.toNat).toNat) (sc 1).toNat
  unfold mpI
  omega
end FR
