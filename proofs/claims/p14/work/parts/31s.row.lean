/-! A row is reduced and taken in. -/
def wkG (Z Z1 : Nat → Nat → Int) (al al1 : Nat → Nat → Int64) : Prop := (∀ b, b ≠ 1 → b ≠ 219 → b ≠ 234 → Z1 b = Z b) ∧ ∀ b, b ≠ 235 → b ≠ 236 → ty b ≠ 14 → al1 b = al b
section RW
variable {fr : Nat → Bool} {nv c c0 s : Nat} {R : Nat → Po} {B : List Nat} {mm : Nat → Option Nat} {Z Z1 Z2 : Nat → Nat → Int} {al al1 al2 : Nat → Nat → Int64} {ai ai1 ai2 : Nat → Nat → Int} {f g : Po}
theorem wkG_f (h : wkF Z Z1 al al1 ai ai1) : wkG Z Z1 al al1 := ⟨h.1, h.2.2.1⟩
theorem wkG_tr (h : wkG Z Z1 al al1) (h2 : wkG Z1 Z2 al1 al2) : wkG Z Z2 al al2 := ⟨fun b b1 b2 b3 => (h2.1 b b1 b2 b3).trans (h.1 b b1 b2 b3), fun b b1 b2 b3 => (h2.2 b b1 b2 b3).trans (h.2 b b1 b2 b3)⟩
theorem wkG_m {j : Nat} {v : Int} (e : Z1 = u2 Z 1 j v) : wkG Z Z1 al al := ⟨fun b b1 _ _ => by rw [e, u2_af b1], fun _ _ _ _ => rfl⟩
theorem wkG_pm {n : Int} (h : pmK al al1 234 n) : wkG Z Z al al1 := ⟨fun _ _ _ _ => rfl, fun b _ b2 _ => h.1 b b2⟩
theorem wkF_cp {b : Nat} {n v : Int} (h : cpK al al1 234 b n) (e : Z1 = u2 Z 234 0 v) : wkF Z Z1 al al1 ai ai := ⟨fun b _ _ b3 => by rw [e, u2_af b3], fun j _ => by rw [e, u2_af (by decide)], fun b b1 b2 _ => h.1 b b1 b2, fun _ _ => rfl⟩
theorem pL_wg {a : Nat} (h : wkG Z Z1 al al1) (ha : ty a = 1) (h2 : a ≠ 234) (hL : pL Z al a f) : pL Z1 al1 a f := by
  have h3 := ty_sep ha (rfl : ty 234 = 1) h2
  refine pL_cg hL (by rw [h.1 a (fun z => by rw [z] at ha; cases ha) (fun z => by rw [z] at ha; cases ha) h2]) fun t _ => ⟨?_, ?_⟩
  · rw [h.2 (a + 1) (by omega) (by omega) (by rw [(ty_p ha).1]; decide)]
  · rw [h.2 (a + 2) (by omega) (by omega) (by rw [(ty_p ha).2]; decide)]
theorem rwK_wg (h : rwK fr nv Z al R c) (hc : c ≤ 40) (hw : wkG Z Z1 al al1) : rwK fr nv Z1 al1 R c := ⟨fun r hr => by
  obtain ⟨⟨h1, h2⟩, h3, h4⟩ := h.1 r hr
  have e := hw.1 (57 + 4 * r) (by omega) (by omega) (by omega)
  exact ⟨⟨pL_wg hw (row_ty (by omega)).1 (by omega) h1, h2⟩, by rw [e]; exact h3, fun q => by rw [e]; exact h4 q⟩, h.2⟩
theorem mb_mono (h : mbK Z mm B c0) (hc : c0 ≤ c) : mbK Z mm B c := ⟨h.1, h.2.1, fun b hb => Nat.lt_of_lt_of_le (h.2.2.1 b hb) hc, h.2.2.2⟩
theorem frK_cg {az : Nat → Nat → Int32} (h : ai1 5 = ai 5) : frK az ai1 = frK az ai := by unfold frK; rw [h]
/-- the same sum -/
theorem same_iff {a b : Nat} (hf : pL Z al a f) (hg : pL Z al b g) (gf : gk nv f) (gg : gk nv g) (hn : nv ≤ 8) : (Z a 0 = Z b 0 ∧ ∀ t : Nat, (t : Int) < Z a 0 → al (a + 1) t = al (b + 1) t ∧ al (a + 2) t = al (b + 2) t) ↔ f = g := by
  have h1 := hf.1
  have h2 := hg.1
  constructor
  · rintro ⟨e1, e2⟩
    have hl : f.length = g.length := by omega
    have h3 : f.map en = g.map en := by
      rw [← hf.2, ← hg.2, ← hl]
      exact ls_cg _ fun t ht => by rw [(e2 t (by omega)).1, (e2 t (by omega)).2]
    have h4 : ∀ (f g : Po), (∀ x, x ∈ f → x.1 < 2 ^ 64) → (∀ x, x ∈ g → x.1 < 2 ^ 64) → f.map en = g.map en → f = g := by
      intro f
      induction f with
      | nil =>
        intro g _ _ h
        cases g with
        | nil => rfl
        | cons y g => cases h
      | cons x f ih =>
        intro g h1 h2 h
        cases g with
        | nil => cases h
        | cons y g =>
          have h5 := List.cons.inj h
          have e1 : Int64.ofNat x.1 = Int64.ofNat y.1 := congrArg (fun z : Int64 × Int64 => z.1) h5.1
          have e2 : x.2 = y.2 := congrArg (fun z : Int64 × Int64 => z.2) h5.1
          have e3 := congrArg (fun z => z.toBitVec.toNat) e1
          have e3 : (Int64.ofNat x.1).toBitVec.toNat = (Int64.ofNat y.1).toBitVec.toNat := e3
          rw [on_bv (h1 x (List.mem_cons_self ..)), on_bv (h2 y (List.mem_cons_self ..))] at e3
          rw [Prod.ext e3 e2, ih g (fun z hz => h1 z (List.mem_cons_of_mem _ hz)) (fun z hz => h2 z (List.mem_cons_of_mem _ hz)) h5.2]
    exact h4 f g (gk_64 gf hn) (gk_64 gg hn) h3
  · intro e
    subst e
    refine ⟨by omega, fun t ht => ?_⟩
    obtain ⟨x, _, q1, _⟩ := ls_at hf.2 (i := t) (by omega)
    obtain ⟨y, _, q2, _⟩ := ls_at hg.2 (i := t) (by omega)
    rename_i d1 _ d2 _
    have e : x = y := by
      rw [d1] at d2
      exact (List.cons.inj d2).1
    subst e
    have q3 : (al (a + 1) t, al (a + 2) t) = (al (b + 1) t, al (b + 2) t) := q1.trans q2.symm
    exact ⟨congrArg Prod.fst q3, congrArg Prod.snd q3⟩
/-- what is left alone throughout -/
def dF (Z Z1 : Nat → Nat → Int) (al al1 : Nat → Nat → Int64) (ai ai1 : Nat → Nat → Int) : Prop := (∀ b, b ≠ 1 → b < 57 ∨ (225 ≤ b ∧ b ≠ 234) → Z1 b = Z b) ∧ (Z1 1 0 = Z 1 0 ∧ Z1 1 3 = Z 1 3 ∧ Z1 1 5 = Z 1 5) ∧ (∀ b, b < 57 ∨ (227 ≤ b ∧ b ≠ 235 ∧ b ≠ 236) → al1 b = al b) ∧ ∀ b, b ≠ 237 → ai1 b = ai b
theorem dF_0 : dF Z Z al al ai ai := ⟨fun _ _ _ => rfl, ⟨rfl, rfl, rfl⟩, fun _ _ => rfl, fun _ _ => rfl⟩
theorem dF_tr (h : dF Z Z1 al al1 ai ai1) (h2 : dF Z1 Z2 al1 al2 ai1 ai2) : dF Z Z2 al al2 ai ai2 := ⟨fun b b1 b2 => (h2.1 b b1 b2).trans (h.1 b b1 b2), ⟨h2.2.1.1.trans h.2.1.1, h2.2.1.2.1.trans h.2.1.2.1, h2.2.1.2.2.trans h.2.1.2.2⟩, fun b b1 => (h2.2.2.1 b b1).trans (h.2.2.1 b b1), fun b b1 => (h2.2.2.2 b b1).trans (h.2.2.2 b b1)⟩
theorem t14 : ∀ b, b < 238 → ty b = 14 → 220 ≤ b ∧ b ≤ 223 := by decide +kernel
theorem dF_wk (h : wkF Z Z1 al al1 ai ai1) : dF Z Z1 al al1 ai ai1 := ⟨fun b b1 b2 => h.1 b b1 (by omega) (by omega), ⟨h.2.1 0 (by decide), h.2.1 3 (by decide), h.2.1 5 (by decide)⟩, fun b b1 => h.2.2.1 b (by omega) (by omega) (fun z => by have := t14 b (ty_lo (by rw [z]; decide)) z; omega), h.2.2.2⟩
theorem dF_m {v : Int} {j : Nat} (hj : j = 1 ∨ j = 2 ∨ j = 4) (e : Z1 = u2 Z 1 j v) : dF Z Z1 al al ai ai := ⟨fun b b1 _ => by rw [e, u2_af b1], ⟨by rw [e, u2_o (by omega)], by rw [e, u2_o (by omega)], by rw [e, u2_o (by omega)]⟩, fun _ _ => rfl, fun _ _ => rfl⟩
theorem dF_pm {n : Int} (h : pmK al al1 234 n) : dF Z Z al al1 ai ai := ⟨fun _ _ _ => rfl, ⟨rfl, rfl, rfl⟩, fun b b1 => h.1 b (by omega), fun _ _ => rfl⟩
theorem dF_cc {b : Nat} {n v : Int} (h : cpK al al1 224 b n) (e : Z1 = u2 Z 224 0 v) : dF Z Z1 al al1 ai ai := ⟨fun b b1 b2 => by rw [e, u2_af (by omega)], ⟨by rw [e, u2_af (by decide)], by rw [e, u2_af (by decide)], by rw [e, u2_af (by decide)]⟩, fun b b1 => h.1 b (by omega) (by omega), fun _ _ => rfl⟩
theorem dF_tk {a : Nat} {l : Po} (h : tkR nv fr Z Z1 al al1 (57 + 4 * a) l) (ha : a < 40) : dF Z Z1 al al1 ai ai := ⟨fun b b1 b2 => h.1 b (by omega) (by omega), ⟨by rw [h.1 1 (by omega) (by omega)], by rw [h.1 1 (by omega) (by omega)], by rw [h.1 1 (by omega) (by omega)]⟩, fun b b1 => h.2.1 b (by omega) (by omega), fun _ _ => rfl⟩
/-- the condition -/
def cnO (nv : Nat) (o : Option Po) (Z Z1 : Nat → Nat → Int) (al al1 : Nat → Nat → Int64) : Prop := match o with
  | some g => pL Z1 al1 224 g ∧ gk nv g
  | none => Z1 224 = Z 224 ∧ al1 225 = al 225 ∧ al1 226 = al 226
end RW
/-- one row -/
noncomputable def rsP (fr : Nat → Bool) (nv : Nat) (B : List Nat) (R : Nat → Po) (c s r : Nat) : Int × (Nat → Po) × Nat × Nat × Option Po :=
  let q := rdP (mbP fr nv R B) (min 200 (1000 - s)) B.length (R r)
  if q.1 = false then (2, R, c, s + q.2.1, none) else
  let g := prP q.2.2
  if g = [] ∨ ((List.range c).any fun j => decide (R j = g)) = true then (3, R, c, s + q.2.1, none) else
  if plP fr nv g = -1 then (0, R, c, s + q.2.1, some g) else
  if 40 ≤ c then (2, R, c, s + q.2.1, none) else
  (3, u1P R c g, c + 1, s + q.2.1, none)
theorem any_iff {R : Nat → Po} {c : Nat} {g : Po} : ((List.range c).any fun j => decide (R j = g)) = true ↔ ∃ j, j < c ∧ R j = g := by
  rw [List.any_eq_true]
  constructor
  · rintro ⟨j, h1, h2⟩
    exact ⟨j, List.mem_range.mp h1, by simpa using h2⟩
  · rintro ⟨j, h1, h2⟩
    exact ⟨j, List.mem_range.mpr h1, by simpa using h2⟩
def rrO (fr : Nat → Bool) (nv : Nat) (t : Int × (Nat → Po) × Nat × Nat × Option Po) (Z Z1 : Nat → Nat → Int) (al al1 : Nat → Nat → Int64) (ai ai1 : Nat → Nat → Int) : Prop := ((Z1 1 1 = (t.2.2.1 : Int) ∧ t.2.2.1 ≤ 40) ∧ (Z1 1 4 = (t.2.2.2.1 : Int) ∧ t.2.2.2.1 ≤ 1000)) ∧ rwK fr nv Z1 al1 t.2.1 t.2.2.1 ∧ Z1 217 = Z 217 ∧ cnO nv t.2.2.2.2 Z Z1 al al1 ∧ dF Z Z1 al al1 ai ai1
section RR
variable {fr : Nat → Bool} {nv c s r : Nat} {R : Nat → Po} {B : List Nat} {Z Z1 Z2 : Nat → Nat → Int} {al al1 al2 : Nat → Nat → Int64} {ai ai1 : Nat → Nat → Int} {q : Bool × Nat × Po} {f : Po}
theorem cn_wg (hw : wkG Z Z1 al al1) : cnO nv none Z Z1 al al1 := ⟨hw.1 224 (by decide) (by decide) (by decide), hw.2 225 (by decide) (by decide) (by decide), hw.2 226 (by decide) (by decide) (by decide)⟩
theorem rr_0 {a : Int} (hR : rwK fr nv Z al R c) (hc : c ≤ 40) (hw : wkG Z Z1 al al1) (hd : dF Z Z1 al al1 ai ai1) (h1 : Z1 1 1 = (c : Int)) {n : Nat} (h4 : Z1 1 4 = (n : Int)) (hn : n ≤ 1000) : rrO fr nv (a, R, c, n, none) Z Z1 al al1 ai ai1 := ⟨⟨⟨h1, hc⟩, h4, hn⟩, rwK_wg hR hc hw, hw.1 217 (by decide) (by decide) (by decide), cn_wg hw, hd⟩
theorem rr_c {a : Int} {g : Po} {n : Nat} {v m : Int} (hR : rwK fr nv Z al R c) (hc : c ≤ 40) (hw : wkG Z Z1 al al1) (hd : dF Z Z1 al al1 ai ai1) (h1 : Z1 1 1 = (c : Int)) (h4 : Z1 1 4 = (n : Int)) (hn : n ≤ 1000) (hL : pL Z1 al1 234 g) (hg : gk nv g) (hcp : cpK al1 al2 224 234 (Z1 234 0)) (ez : Z2 = u2 Z1 224 0 (Z1 234 0)) : rrO fr nv (a, R, c, n, some g) Z Z2 al al2 ai ai1 := by
  have hR1 := rwK_wg hR hc hw
  refine ⟨⟨⟨by rw [ez, u2_af (by decide)]; exact h1, hc⟩, by rw [ez, u2_af (by decide)]; exact h4, hn⟩, ⟨fun r hr => ?_, hR1.2⟩, by rw [ez, u2_af (by decide)]; exact hw.1 217 (by decide) (by decide) (by decide), ⟨pL_cp hL (by rw [ez, u2_s]) hcp, hg⟩, dF_tr hd (dF_cc hcp ez)⟩
  obtain ⟨⟨q1, q2⟩, q3, q4⟩ := hR1.1 r hr
  have e : Z2 (57 + 4 * r) = Z1 (57 + 4 * r) := by rw [ez, u2_af (by omega)]
  refine ⟨⟨pL_cg q1 (by rw [ez, u2_a (by omega)]) fun t _ => ⟨?_, ?_⟩, q2⟩, by rw [e]; exact q3, fun z => by rw [e]; exact q4 z⟩
  · rw [hcp.1 _ (by omega) (by omega)]
  · rw [hcp.1 _ (by omega) (by omega)]
theorem rwW_tk {l : Po} (hR : rwW fr nv Z al R c) (hc : c < 40) (h : tkR nv fr Z Z1 al al1 (57 + 4 * c) l) (hg : gk nv l) : rwW fr nv Z1 al1 (u1P R c l) (c + 1) := fun r hr => by
  by_cases e : r = c
  · subst e
    have e1 : u1P R r l r = l := if_pos rfl
    rw [e1]
    exact ⟨⟨h.2.2.1, hg⟩, h.2.2.2.1, h.2.2.2.2⟩
  · have e1 : u1P R c l r = R r := if_neg e
    rw [e1]
    obtain ⟨⟨q1, q2⟩, q3, q4⟩ := hR r (by omega)
    have e2 : Z1 (57 + 4 * r) = Z (57 + 4 * r) := h.1 _ (by omega) (by omega)
    refine ⟨⟨pL_cg q1 (by rw [h.1 (57 + 4 * r + 1) (by omega) (by omega)]) fun t _ => ⟨?_, ?_⟩, q2⟩, by rw [e2]; exact q3, fun z => by rw [e2]; exact q4 z⟩
    · rw [h.2.1 _ (by omega) (by omega)]
    · rw [h.2.1 _ (by omega) (by omega)]
theorem rr_t {a : Int} {g : Po} {n : Nat} {Z3 : Nat → Nat → Int} (hR : rwK fr nv Z al R c) (hc : c < 40) (hw : wkG Z Z1 al al1) (hd : dF Z Z1 al al1 ai ai1) (h4 : Z1 1 4 = (n : Int)) (hn : n ≤ 1000) (hg : gk nv g) (hp : plP fr nv g ≠ -1) (ht : tkR nv fr Z1 Z2 al1 al2 (57 + 4 * c) g) (ez : Z3 = u2 Z2 1 1 ((c : Int) + 1)) : rrO fr nv (a, u1P R c g, c + 1, n, none) Z Z3 al al2 ai ai1 := by
  have hR1 := rwK_wg hR (by omega) hw
  have hW := rwW_tk hR1.1 hc ht hg
  have e1 : ∀ b, b ≠ 1 → Z3 b = Z2 b := fun b hb => by rw [ez, u2_af hb]
  refine ⟨⟨⟨by rw [ez, u2_s]; show (c : Int) + 1 = ((c + 1 : Nat) : Int); omega, by show c + 1 ≤ 40; omega⟩, ?_, hn⟩, ⟨fun r hr => ?_, fun r hr => ?_⟩, ?_, ⟨?_, ?_, ?_⟩, ?_⟩
  · rw [ez, u2_o (by decide), ht.1 1 (by omega) (by omega)]; exact h4
  · obtain ⟨⟨q1, q2⟩, q3, q4⟩ := hW r hr
    have hr : r < c + 1 := hr
    have e2 := e1 (57 + 4 * r) (by omega)
    exact ⟨⟨pL_cg q1 (by rw [e1 _ (by omega)]) fun _ _ => ⟨rfl, rfl⟩, q2⟩, by rw [e2]; exact q3, fun z => by rw [e2]; exact q4 z⟩
  · show plP fr nv (u1P R c g r) ≠ -1
    unfold u1P
    split
    · exact hp
    · exact hR1.2 r (by have hr : r < c + 1 := hr; omega)
  · rw [e1 217 (by decide), ht.1 217 (by omega) (by omega)]; exact hw.1 217 (by decide) (by decide) (by decide)
  · rw [e1 224 (by decide), ht.1 224 (by omega) (by omega)]; exact hw.1 224 (by decide) (by decide) (by decide)
  · rw [ht.2.1 225 (by omega) (by omega)]; exact hw.2 225 (by decide) (by decide) (by decide)
  · rw [ht.2.1 226 (by omega) (by omega)]; exact hw.2 226 (by decide) (by decide) (by decide)
  · exact dF_tr hd (dF_tr (dF_tk ht hc) (dF_m (Or.inl rfl) ez))
end RR
/-- making primitive twice -/
theorem gc_k : ∀ (l : Po) (g : Nat), (∀ x, x ∈ l → g ∣ x.2.toInt.natAbs) → ∀ a, l.foldl (fun g x => Nat.gcd g x.2.toInt.natAbs) (g * a) = g * l.foldl (fun h x => Nat.gcd h (x.2.toInt.natAbs / g)) a := by
  intro l
  induction l with
  | nil => intro g _ a; rfl
  | cons x l ih =>
    intro g h a
    obtain ⟨k, hk⟩ := h x (List.mem_cons_self ..)
    show l.foldl _ (Nat.gcd (g * a) x.2.toInt.natAbs) = g * l.foldl _ (Nat.gcd a (x.2.toInt.natAbs / g))
    by_cases g0 : g = 0
    · subst g0
      rw [hk, Nat.zero_mul, Nat.zero_mul, Nat.gcd_self]
      have := ih 0 (fun y hy => h y (List.mem_cons_of_mem _ hy)) 0
      rw [Nat.zero_mul] at this
      rw [this, Nat.zero_mul, Nat.zero_mul]
    · rw [hk, Nat.mul_div_cancel_left _ (by omega), Nat.gcd_mul_left]
      exact ih g (fun y hy => h y (List.mem_cons_of_mem _ hy)) _
theorem div_i {c : Int64} {g : Nat} {s : Int} (hc : c.toInt ≠ 0 ∧ -67108864 ≤ c.toInt ∧ c.toInt ≤ 67108864) (hg : g ∣ c.toInt.natAbs) (hs : s = (g : Int) ∨ s = -(g : Int)) : (c / Int64.ofInt s).toInt = c.toInt.tdiv s ∧ (c.toInt.tdiv s).natAbs = c.toInt.natAbs / g := by
  obtain ⟨k, hk⟩ := hg
  have hk0 : k ≠ 0 := fun e => by rw [e, Nat.mul_zero] at hk; omega
  have hg0 : g ≠ 0 := fun e => by rw [e, Nat.zero_mul] at hk; omega
  have hgk : g ≤ g * k := Nat.le_mul_of_pos_right _ (by omega)
  have hkk : k ≤ g * k := Nat.le_mul_of_pos_left _ (by omega)
  have es : (Int64.ofInt s).toInt = s := Int64.toInt_ofInt_of_le (by omega) (by omega)
  have e2 : (c.toInt.tdiv s).natAbs = c.toInt.natAbs / g := by
    rw [Int.natAbs_tdiv, show s.natAbs = g by omega]
    rfl
  have e3 : c.toInt.natAbs / g = k := by rw [hk, Nat.mul_div_cancel_left _ (by omega)]
  refine ⟨?_, e2⟩
  rw [Int64.toInt_div, es, Int.bmod_eq_of_le] <;> omega
theorem gc_map {α : Type} (h : α → Nat) (e : α → Nat × Int64) : ∀ (l : List α) (a : Nat), (∀ x, x ∈ l → (e x).2.toInt.natAbs = h x) → (l.map e).foldl (fun g x => Nat.gcd g x.2.toInt.natAbs) a = l.foldl (fun g x => Nat.gcd g (h x)) a := by
  intro l
  induction l with
  | nil => intro a _; rfl
  | cons x l ih =>
    intro a q
    show (l.map e).foldl _ (Nat.gcd a (e x).2.toInt.natAbs) = _
    rw [q x (List.mem_cons_self ..)]
    exact ih _ fun y hy => q y (List.mem_cons_of_mem _ hy)
theorem sg_or {l : Po} {x : Nat × Int64} (hx : x ∈ l) : sgP l = (gcP l : Int) ∨ sgP l = -(gcP l : Int) := by
  cases l with
  | nil => cases hx
  | cons y l =>
    by_cases q : y.2.toInt < 0
    · exact Or.inr (if_pos q)
    · exact Or.inl (if_neg q)
theorem gk_c {nv : Nat} {l : Po} {x : Nat × Int64} (h : gk nv l) (hx : x ∈ l) : x.2.toInt ≠ 0 ∧ -67108864 ≤ x.2.toInt ∧ x.2.toInt ≤ 67108864 := ⟨fun z => h.1.2 x hx (Int64.toInt_inj.mp (by rw [z]; rfl)), (h.2.1.2 x hx).1.1, (h.2.1.2 x hx).1.2⟩
theorem pr_g {l : Po} {G : Nat} {S : Int64} (h : ∀ x, x ∈ l → (x.2 / S).toInt.natAbs = x.2.toInt.natAbs / G) : gcP (l.map fun x => (x.1, x.2 / S)) = l.foldl (fun g x => Nat.gcd g (x.2.toInt.natAbs / G)) 0 := by
  unfold gcP
  exact gc_map (fun x : Nat × Int64 => x.2.toInt.natAbs / G) (fun x : Nat × Int64 => (x.1, x.2 / S)) l 0 h
theorem pr_one {l : Po} (h : sgP l = 1) : prP l = l := by
  unfold prP
  rw [h]
  have : ∀ x : Nat × Int64, (x.1, x.2 / Int64.ofInt 1) = x := fun x => by
    have : Int64.ofInt 1 = 1 := rfl
    rw [this, Int64.div_one]
  simp only [this]
  exact List.map_id _
theorem pr_pr {nv : Nat} {l : Po} (h : gk nv l) : prP (prP l) = prP l := by
  cases hl : l with
  | nil => rfl
  | cons y l0 =>
    have hy : y ∈ l := by rw [hl]; exact List.mem_cons_self ..
    have h1 : ∀ x, x ∈ l → (x.2 / Int64.ofInt (sgP l)).toInt.natAbs = x.2.toInt.natAbs / gcP l := fun x hx => by
      have := div_i (gk_c h hx) (gcP_dvd l x hx) (sg_or hx)
      rw [this.1, this.2]
    have g0 : 0 < gcP l := Nat.pos_of_ne_zero fun e => by
      have h2 := gcP_dvd l y hy
      rw [e] at h2
      have := Nat.eq_zero_of_zero_dvd h2
      have := (gk_c h hy).1
      omega
    have h2 : gcP (prP l) = 1 := by
      have e1 : gcP (prP l) = l.foldl (fun g x => Nat.gcd g (x.2.toInt.natAbs / gcP l)) 0 := pr_g h1
      have e2 := gc_k l (gcP l) (gcP_dvd l) 0
      rw [Nat.mul_zero, ← e1] at e2
      have e3 : gcP l = gcP l * gcP (prP l) := e2
      exact Nat.eq_of_mul_eq_mul_left g0 (by rw [Nat.mul_one]; exact e3.symm)
    have h3 : sgP (prP l) = 1 := by
      have e1 : prP l = (y.1, y.2 / Int64.ofInt (sgP l)) :: l0.map fun x => (x.1, x.2 / Int64.ofInt (sgP l)) := by
        unfold prP
        conv => lhs; rw [hl]
        rw [List.map_cons, ← hl]
      have e2 : ¬ (y.2 / Int64.ofInt (sgP l)).toInt < 0 := by
        rw [(div_i (gk_c h hy) (gcP_dvd l y hy) (sg_or hy)).1]
        have e3 : sgP l = if y.2.toInt < 0 then -(gcP l : Int) else (gcP l : Int) := by rw [hl]; rfl
        rw [e3]
        split
        · have := Int.tdiv_nonneg (a := -y.2.toInt) (b := (gcP l : Int)) (by omega) (by omega)
          rw [Int.neg_tdiv] at this
          rw [Int.tdiv_neg]
          omega
        · have := Int.tdiv_nonneg (a := y.2.toInt) (b := (gcP l : Int)) (by omega) (by omega)
          omega
      have e4 : sgP (prP l) = if (y.2 / Int64.ofInt (sgP l)).toInt < 0 then -(gcP (prP l) : Int) else (gcP (prP l) : Int) := by
        rw [e1]
        rfl
      rw [e4, if_neg e2, h2]
      rfl
    rw [← hl]
    exact pr_one h3
