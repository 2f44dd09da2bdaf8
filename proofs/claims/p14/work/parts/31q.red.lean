/-! Reducing. -/
theorem u2_oth {Z Z1 : Nat → Nat → Int} {a b j : Nat} {q : Int} (h : Z1 = u2 Z a j q) (hb : b ≠ a) : Z1 b = Z b := by rw [h, u2_af hb]
section RD
variable {S : Nat → Po × Nat × Nat} {f g : Po} {k n m : Nat}
abbrev dueS (S : Nat → Po × Nat × Nat) (f : Po) (m : Nat) : Prop := f ≠ [] ∧ (S m).2.2 ≤ dgP f (S m).2.1
def addk (n : Nat) (r : Bool × Nat × Po) : Bool × Nat × Po := (r.1, r.2.1 + n, r.2.2)
theorem rd_z : rdP S k 0 f = (true, 0, f) := by cases k <;> rw [rdP]
theorem rd_no (h : ¬ dueS S f m) : rdP S k (m + 1) f = rdP S k m f := by
  cases k
  · rw [rdP, if_neg h]
  · rw [rdP, if_neg h]
theorem rd_0 (h : dueS S f m) : rdP S 0 (m + 1) f = (false, 0, f) := by rw [rdP, if_pos h]
theorem rd_f (h : dueS S f m) (hs : stP f (S m).1 (S m).2.1 (dgP f (S m).2.1) (S m).2.2 = none) : rdP S k (m + 1) f = (false, 0, f) := by
  cases k
  · exact rd_0 h
  · rw [rdP, if_pos h, hs]
theorem rd_s (h : dueS S f m) (hs : stP f (S m).1 (S m).2.1 (dgP f (S m).2.1) (S m).2.2 = some g) : rdP S (k + 1) (m + 1) f = addk 1 (rdP S k (m + 1) g) := by
  rw [rdP, if_pos h, hs]
  rfl
theorem rd_all : (∀ j, j < n → ¬ dueS S f j) → rdP S k n f = (true, 0, f) := by
  induction n with
  | zero => intro _; exact rd_z
  | succ n ih => intro h; rw [rd_no (h n (by omega))]; exact ih fun j hj => h j (by omega)
theorem rd_down {q : Nat} (hq : q < n) (h : ∀ j, q < j → j < n → ¬ dueS S f j) : rdP S k n f = rdP S k (q + 1) f := by
  induction n with
  | zero => omega
  | succ n ih =>
    by_cases e : q = n
    · rw [e]
    · rw [rd_no (h n (by omega) (by omega))]
      exact ih (by omega) fun j h1 h2 => h j h1 (by omega)
theorem rd_le : ∀ (k n : Nat) (f : Po), (rdP S k n f).2.1 ≤ k := by
  intro k
  induction k with
  | zero =>
    intro n
    induction n with
    | zero => intro f; rw [rd_z]; exact Nat.le_refl _
    | succ n ih =>
      intro f
      by_cases h : dueS S f n
      · rw [rd_0 h]; exact Nat.le_refl _
      · rw [rd_no h]; exact ih f
  | succ k ihk =>
    intro n
    induction n with
    | zero => intro f; rw [rd_z]; exact Nat.zero_le _
    | succ n ih =>
      intro f
      by_cases h : dueS S f n
      · cases hs : stP f (S n).1 (S n).2.1 (dgP f (S n).2.1) (S n).2.2 with
        | none => rw [rd_f h hs]; exact Nat.zero_le _
        | some g =>
          rw [rd_s h hs]
          have := ihk (n + 1) g
          show _ + 1 ≤ k + 1
          omega
      · rw [rd_no h]; exact ih f
theorem ak_ak {r : Bool × Nat × Po} : addk n (addk 1 r) = addk (n + 1) r := by
  unfold addk
  congr 2
  show r.2.1 + 1 + n = r.2.1 + (n + 1)
  omega
end RD
theorem dgP_lt {f : Po} {p : Nat} : dgP f p < 256 := by
  have : ∀ (l : Po) (d : Nat), d < 256 → l.foldl (fun d x => if d < dgt x.1 p then dgt x.1 p else d) d < 256 := by
    intro l
    induction l with
    | nil => intro d h; exact h
    | cons x l ih =>
      intro d h
      refine ih _ ?_
      have := dgt_lt x.1 p
      show (if _ then _ else _) < _
      split <;> omega
  exact this f 0 (by decide)
/-- what reducing leaves alone -/
def wkF (Z Z1 : Nat → Nat → Int) (al al1 : Nat → Nat → Int64) (ai ai1 : Nat → Nat → Int) : Prop := (∀ b, b ≠ 1 → b ≠ 219 → b ≠ 234 → Z1 b = Z b) ∧ (∀ j, j ≠ 2 → Z1 1 j = Z 1 j) ∧ (∀ b, b ≠ 235 → b ≠ 236 → ty b ≠ 14 → al1 b = al b) ∧ ∀ b, b ≠ 237 → ai1 b = ai b
section WF
variable {fr : Nat → Bool} {nv c : Nat} {R : Nat → Po} {B : List Nat} {mm : Nat → Option Nat} {Z Z1 Z2 : Nat → Nat → Int} {al al1 al2 : Nat → Nat → Int64} {ai ai1 ai2 : Nat → Nat → Int} {f : Po}
theorem wkF_0 : wkF Z Z al al ai ai := ⟨fun _ _ _ _ => rfl, fun _ _ => rfl, fun _ _ _ _ => rfl, fun _ _ => rfl⟩
theorem wkF_m {v : Int} (h : wkF Z Z1 al al1 ai ai1) (e : Z2 = u2 Z1 1 2 v) : wkF Z Z2 al al1 ai ai1 := ⟨fun b h1 h2 h3 => by rw [e, u2_af h1]; exact h.1 b h1 h2 h3, fun j hj => by rw [e, u2_o hj]; exact h.2.1 j hj, h.2.2⟩
theorem wkF_i (h : wkF Z Z1 al al1 ai ai1) (e : ∀ b, b ≠ 237 → ai2 b = ai1 b) : wkF Z Z1 al al1 ai ai2 := ⟨h.1, h.2.1, h.2.2.1, fun b hb => by rw [e b hb]; exact h.2.2.2 b hb⟩
theorem wkF_s {nv : Nat} {f b : Po} {p d e : Nat} {q : Int} (h : wkF Z Z1 al al1 ai ai1) (hs : stO nv f b p d e Z1 Z2 al1 al2 234 q) : wkF Z Z2 al al2 ai ai1 := ⟨fun b h1 h2 h3 => by rw [hs.1 b h2 h3]; exact h.1 b h1 h2 h3, fun j hj => by rw [hs.1 1 (by decide) (by decide)]; exact h.2.1 j hj, fun b h1 h2 h3 => by rw [hs.2.1 b h3 h1 h2]; exact h.2.2.1 b h1 h2 h3, h.2.2.2⟩
theorem row_ty {r : Nat} (hr : r < 40) : ty (57 + 4 * r + 1) = 1 ∧ ty (57 + 4 * r + 1 + 1) = 2 ∧ ty (57 + 4 * r + 1 + 2) = 2 := ⟨ty_r (ty_ri r hr), (ty_p (ty_r (ty_ri r hr))).1, (ty_p (ty_r (ty_ri r hr))).2⟩
theorem pL_wk {a : Nat} (h : wkF Z Z1 al al1 ai ai1) (ha : ty a = 1) (h2 : a ≠ 234) (hL : pL Z al a f) : pL Z1 al1 a f := by
  have h3 := ty_sep ha (rfl : ty 234 = 1) h2
  refine pL_cg hL (by rw [h.1 a (fun z => by rw [z] at ha; cases ha) (fun z => by rw [z] at ha; cases ha) h2]) fun t _ => ⟨?_, ?_⟩
  · rw [h.2.2.1 (a + 1) (by omega) (by omega) (by rw [(ty_p ha).1]; decide)]
  · rw [h.2.2.1 (a + 2) (by omega) (by omega) (by rw [(ty_p ha).2]; decide)]
theorem rwW_wk (h : rwW fr nv Z al R c) (hc : c ≤ 40) (hw : wkF Z Z1 al al1 ai ai1) : rwW fr nv Z1 al1 R c := fun r hr => by
  obtain ⟨⟨h1, h2⟩, h3, h4⟩ := h r hr
  have e := hw.1 (57 + 4 * r) (by omega) (by omega) (by omega)
  exact ⟨⟨pL_wk hw (row_ty (by omega)).1 (by omega) h1, h2⟩, by rw [e]; exact h3, fun q => by rw [e]; exact h4 q⟩
theorem rwK_wk (h : rwK fr nv Z al R c) (hc : c ≤ 40) (hw : wkF Z Z1 al al1 ai ai1) : rwK fr nv Z1 al1 R c := ⟨rwW_wk h.1 hc hw, h.2⟩
theorem mbK_wk (h : mbK Z mm B c) (hw : wkF Z Z1 al al1 ai ai1) : mbK Z1 mm B c := ⟨by rw [hw.1 217 (by decide) (by decide) (by decide)]; exact h.1, h.2⟩
theorem du_e {i q : Int} (h : duK Z al B 234 i q) (hR : rwK fr nv Z al R c) (hB : mbK Z mm B c) (hn : nv ≤ 8) (hL : pL Z al 234 f) (hg : gk nv f) (hi : -1 ≤ i ∧ i < Z 217 0) : (q = -1 ∧ ∀ k, rdP (mbP fr nv R B) k (i + 1).toNat f = (true, 0, f)) ∨ (0 ≤ q ∧ dueS (mbP fr nv R B) f q.toNat ∧ ∀ k, rdP (mbP fr nv R B) k (i + 1).toNat f = rdP (mbP fr nv R B) k (q + 1).toNat f) := by
  have hl := hL.1
  have e : ∀ j : Nat, (j : Int) < Z 217 0 → dgk (al (234 + 1)) (Z (57 + 4 * B.reverse.getD j 0) 0) (Z 234 0).toNat = (dgP f ((mbP fr nv R B) j).2.1 : Int) ∧ Z (57 + 4 * B.reverse.getD j 0) 1 = (((mbP fr nv R B) j).2.2 : Int) := fun j hj => by
    have hb := mb_lt hB hj
    have h1 := hR.1 _ hb
    have h2 := hR.2 _ hb
    have h3 := pl_bd (fr := fr) (nv := nv) (f := R (B.reverse.getD j 0))
    refine ⟨?_, h1.2.2 h2⟩
    rw [h1.2.1]
    exact pL_dg hL hg hn (by omega)
  have hd : ∀ j : Nat, (j : Int) < Z 217 0 → dgk (al (234 + 1)) (Z (57 + 4 * B.reverse.getD j 0) 0) (Z 234 0).toNat < Z (57 + 4 * B.reverse.getD j 0) 1 → ¬ dueS (mbP fr nv R B) f j := fun j hj h1 h2 => by
    have := e j hj
    have := h2.2
    omega
  rcases h with ⟨h1, h2⟩ | ⟨h1, h2, h3⟩
  · have e0 : f = [] := List.eq_nil_of_length_eq_zero (by omega)
    exact Or.inl ⟨h2, fun k => rd_all fun j _ z => z.1 e0⟩
  · by_cases q0 : q = -1
    · exact Or.inl ⟨q0, fun k => rd_all fun j hj => hd j (by omega) (h2 j (by omega) (by omega))⟩
    · refine Or.inr ⟨by omega, ⟨fun z => ?_, ?_⟩, fun k => ?_⟩
      · rw [z] at hl
        exact h1.1 hl
      · have := e q.toNat (by omega)
        have := h3 (by omega)
        omega
      · rw [show (q + 1).toNat = q.toNat + 1 by omega]
        exact rd_down (by omega) fun j j1 j2 => hd j (by omega) (h2 j (by omega) (by omega))
def rdI (nv : Nat) (S : Nat → Po × Nat × Nat) (k n : Nat) (f0 : Po) (Z : Nat → Nat → Int) (al : Nat → Nat → Int64) (x2 x3 : Int) : Prop := ∃ f, pL Z al 234 f ∧ gk nv f ∧ Z 1 2 = x3 ∧ rdP S k n f0 = addk x3.toNat (rdP S (k - x3.toNat) (x2 + 1).toNat f)
/-- what reducing answers -/
def rdO (nv : Nat) (r : Bool × Nat × Po) (Z : Nat → Nat → Int) (al : Nat → Nat → Int64) (q : Int) : Prop := (0 ≤ q ∧ q ≤ 1) ∧ (q = 1 ↔ r.1 = true) ∧ Z 1 2 = (r.2.1 : Int) ∧ (q = 1 → pL Z al 234 r.2.2 ∧ gk nv r.2.2)
theorem rdI_0 {nv n k : Nat} {S : Nat → Po × Nat × Nat} {x2 : Int} (hL : pL Z1 al1 234 f) (hg : gk nv f) (e : Z1 1 2 = 0) (hx : (x2 + 1).toNat = n) : rdI nv S k n f Z1 al1 x2 0 := ⟨f, hL, hg, e, by rw [hx]; rfl⟩
theorem rdO_t {nv n k : Nat} {S : Nat → Po × Nat × Nat} {f0 : Po} {x2 x3 : Int} (hL : pL Z al 234 f) (hg : gk nv f) (hm : Z 1 2 = x3) (h0 : 0 ≤ x3) (hr : rdP S k n f0 = addk x3.toNat (rdP S (k - x3.toNat) (x2 + 1).toNat f)) (h : ∀ k, rdP S k (x2 + 1).toNat f = (true, 0, f)) : rdO nv (rdP S k n f0) Z al 1 := by
  rw [hr, h]
  exact ⟨by omega, ⟨fun _ => rfl, fun _ => rfl⟩, by rw [hm]; show x3 = ((0 + x3.toNat : Nat) : Int); omega, fun _ => ⟨hL, hg⟩⟩
theorem rdO_f {nv n k : Nat} {S : Nat → Po × Nat × Nat} {f0 : Po} {x2 x3 : Int} (hm : Z 1 2 = x3) (h0 : 0 ≤ x3) (hr : rdP S k n f0 = addk x3.toNat (rdP S (k - x3.toNat) (x2 + 1).toNat f)) (h : rdP S (k - x3.toNat) (x2 + 1).toNat f = (false, 0, f)) : rdO nv (rdP S k n f0) Z al 0 := by
  rw [hr, h]
  exact ⟨by omega, ⟨fun z => absurd z (by decide), fun z => absurd z (by show ¬ false = true; decide)⟩, by rw [hm]; show x3 = ((0 + x3.toNat : Nat) : Int); omega, fun z => absurd z (by decide)⟩
theorem rdI_s {nv n k : Nat} {S : Nat → Po × Nat × Nat} {f0 g : Po} {x2 x3 q : Int} (hr : rdP S k n f0 = addk x3.toNat (rdP S (k - x3.toNat) (x2 + 1).toNat f)) (hq : 0 ≤ q) (hd : dueS S f q.toNat) (he : ∀ k, rdP S k (x2 + 1).toNat f = rdP S k (q + 1).toNat f) (hs : stP f (S q.toNat).1 (S q.toNat).2.1 (dgP f (S q.toNat).2.1) (S q.toNat).2.2 = some g) (h0 : 0 ≤ x3) (hk : x3.toNat < k) (hL : pL Z al 234 g) (hg : gk nv g) (hm : Z 1 2 = x3 + 1) : rdI nv S k n f0 Z al q (x3 + 1) := by
  refine ⟨g, hL, hg, hm, ?_⟩
  obtain ⟨m, em⟩ : ∃ m, k - x3.toNat = m + 1 := ⟨k - x3.toNat - 1, by omega⟩
  rw [hr, he, em, show (q + 1).toNat = q.toNat + 1 by omega, rd_s hd hs, ak_ak]
  congr 1
  · omega
  · congr 1
    omega
end WF
theorem rw_p {fr : Nat → Bool} {nv c b : Nat} {R : Nat → Po} {Z : Nat → Nat → Int} {al : Nat → Nat → Int64} (h : rwK fr nv Z al R c) (hb : b < c) : Z (57 + 4 * b) 0 = ((plP fr nv (R b)).toNat : Int) ∧ (plP fr nv (R b)).toNat < nv := by
  have h1 := h.1 b hb
  have h2 := h.2 b hb
  have h3 := pl_bd (fr := fr) (nv := nv) (f := R b)
  have h4 := h1.2.1
  omega
theorem rw_e {fr : Nat → Bool} {nv c b : Nat} {R : Nat → Po} {Z : Nat → Nat → Int} {al : Nat → Nat → Int64} (h : rwK fr nv Z al R c) (hb : b < c) : Z (57 + 4 * b) 1 = (dmP fr nv (R b) : Int) ∧ dmP fr nv (R b) < 256 := ⟨(h.1 b hb).2.2 (h.2 b hb), dgP_lt⟩
