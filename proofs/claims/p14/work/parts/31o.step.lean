/-! A step by merging. -/
def fl1 (f : Po) (p d e : Nat) (bs : Po) : Po := (lds bs p e).flatMap fun y => pdM (y.1 - e * 256 ^ p) y.2 p d f
def fl2 (b : Po) (p d e : Nat) (fs : Po) : Po := (lds fs p d).flatMap fun x => pdM (x.1 - e * 256 ^ p) (-x.2) p e b
theorem prC_e {f b : Po} {p d e : Nat} : prC f b p d e = fl1 f p d e b ++ fl2 b p d e f := rfl
def stF (Z Z1 : Nat → Nat → Int) (al al1 : Nat → Nat → Int64) (sk1 : Nat) (A : Po) : Prop := (Z1 = u2 Z 219 0 (A.length : Int) ∧ ∀ c, ty c ≠ 14 → al1 c = al c) ∧ pS Z1 al1 sk1 A
def st1 (f b : Po) (p d e : Nat) (Z Z1 : Nat → Nat → Int) (al al1 : Nat → Nat → Int64) (sk1 : Nat) (x8 : Int) : Prop := ∃ A, stF Z Z1 al al1 sk1 A ∧ (∀ k, cf A k + cf (fl1 f p d e (b.drop x8.toNat)) k = cf (fl1 f p d e b) k) ∧ A.length + (lds (b.drop x8.toNat) p e).length * (nld f p d).length ≤ (lds b p e).length * (nld f p d).length
def st2 (f b : Po) (p d e : Nat) (Z Z1 : Nat → Nat → Int) (al al1 : Nat → Nat → Int64) (sk1 : Nat) (x8 : Int) : Prop := ∃ A, stF Z Z1 al al1 sk1 A ∧ (∀ k, cf A k + cf (fl2 b p d e (f.drop x8.toNat)) k = cf (prC f b p d e) k) ∧ A.length + (lds (f.drop x8.toNat) p d).length * (nld b p e).length ≤ (lds b p e).length * (nld f p d).length + (lds f p d).length * (nld b p e).length
section ST
variable {f b : Po} {p d e nv a1 a2 sk sk1 : Nat} {Z Z1 Z2 : Nat → Nat → Int} {al al1 al2 : Nat → Nat → Int64} {A A1 : Po} {x8 x4 : Int} {y5 : Int64}
theorem ld_hi {x : Nat × Int64} {fs : Po} (h : dgt x.1 p = d) : lds (x :: fs) p d = x :: lds fs p d := by
  unfold lds
  rw [List.filter_cons, if_pos (by simp [h])]
theorem ld_lo {x : Nat × Int64} {fs : Po} (h : ¬ dgt x.1 p = d) : lds (x :: fs) p d = lds fs p d := by
  unfold lds
  rw [List.filter_cons, if_neg (by simp [h])]
theorem ld_nl : (lds f p d).length + (nld f p d).length = f.length := by
  induction f with
  | nil => rfl
  | cons x f ih =>
    by_cases h : dgt x.1 p = d
    · rw [ld_hi h, nl_lo h, List.length_cons, List.length_cons]; omega
    · rw [ld_lo h, nl_hi h, List.length_cons, List.length_cons]; omega
theorem rm_bd {β nf φ nb : Nat} (h1 : β + nb ≤ 60) (h2 : φ + nf ≤ 60) : β * nf + φ * nb ≤ 3600 := by
  have h3 : (β + nb) * (φ + nf) ≤ 60 * 60 := Nat.mul_le_mul h1 h2
  rw [Nat.add_mul, Nat.mul_add, Nat.mul_add, Nat.mul_comm nb φ] at h3
  omega
theorem stF_pL {a : Nat} {g : Po} (h : stF Z Z1 al al1 sk1 A) (ha : ty a = 1) (hL : pL Z al a g) : pL Z1 al1 a g := by
  have e : Z1 a = Z a := by rw [h.1.1, u2_af (fun z => by rw [z] at ha; cases ha)]
  exact pL_cg hL (by rw [e]) fun t _ => ⟨by rw [h.1.2 _ (by rw [(ty_p ha).1]; decide)], by rw [h.1.2 _ (by rw [(ty_p ha).2]; decide)]⟩
theorem stF_Z {a : Nat} (h : stF Z Z1 al al1 sk1 A) (ha : a ≠ 219) : Z1 a = Z a := by rw [h.1.1, u2_af ha]
theorem stF_am {N : Nat} {c : Int64} {q lo : Nat} {g : Po} (h : stF Z Z1 al al1 sk1 A) (hs : sk1 = 0 ∨ sk1 = 2) (ha : amR Z1 Z2 al1 al2 sk1 A N c q lo g A1) : stF Z Z2 al al2 (2 - sk1) A1 := by
  obtain ⟨h1, h2, h3, h4, h5⟩ := ha
  refine ⟨⟨?_, fun b hb => ?_⟩, h3⟩
  · rw [h1, h.1.1]
    funext a j
    unfold u2
    split <;> rfl
  · rw [h2 b (fun z => hb (by rw [z]; exact ty_b2 hs)) (fun z => hb (by rw [z]; exact ty_b3 hs))]
    exact h.1.2 b hb
theorem st_0 (h : Z1 = u2 Z 219 0 0) : st1 f b p d e Z Z1 al al sk 0 := by
  refine ⟨[], ⟨⟨h, fun _ _ => rfl⟩, ⟨by rw [h, u2_s]; rfl, rfl⟩, ⟨List.Pairwise.nil, (fun _ z => by cases z)⟩, (fun _ z => by cases z)⟩, fun k => by rw [cf_nil, Int64.zero_add]; rfl, ?_⟩
  show 0 + (lds b p e).length * (nld f p d).length ≤ _
  omega
/-- the key that is given along -/
theorem ky {x : Nat × Int64} {g : Po} (hg : gk nv g) (hx : x ∈ g) (hp : p < nv) (hn : nv ≤ 8) (he : e ≤ dgt x.1 p) (h5 : y5 = Int64.ofNat (e * 256 ^ p)) {κ : Int64} (hκ : κ = Int64.ofNat x.1) : κ - y5 = Int64.ofNat (x.1 - e * 256 ^ p) := by
  have h1 := gk_dg hg hx
  rw [hκ, h5, on_sub (dgt_sub h1.1 hp he).1]
theorem kyb {x : Nat × Int64} {g h : Po} (hg : gk nv g) (hx : x ∈ g) (hh : gk nv h) (hp : p < nv) (hn : nv ≤ 8) (he : e ≤ dgt x.1 p) : ∀ y, y ∈ h → y.1 + (x.1 - e * 256 ^ p) < 2 ^ 63 := fun y hy => (kb (gk_dg hh hy).1 (gk_dg hg hx).1 (gk_dg hh hy).2 (gk_dg hg hx).2 hp hn he).2.1
/-- one turn: a term is passed over -/
theorem st1_n (h : st1 f b p d e Z Z1 al al1 sk1 x8) (hL : pL Z al a2 b) (hg : gk nv b) (hn : nv ≤ 8) (hp8 : p < 8) (h0 : 0 ≤ x8 ∧ x8 < Z a2 0) (hq : pw (al (a2 + 1) x8.toNat) (p : Int) ≠ (e : Int)) : st1 f b p d e Z Z1 al al1 sk1 (x8 + 1) := by
  obtain ⟨A, h1, h2, h3⟩ := h
  obtain ⟨y, e1, e2, e3, e4⟩ := fx hL h0
  rw [e2, Ne, pw_lo hg hn e4 ⟨rfl, hp8⟩ rfl] at hq
  rw [e1] at h3
  rw [ld_lo hq] at h3
  refine ⟨A, h1, fun k => ?_, h3⟩
  have h4 := h2 k
  rw [e1] at h4
  unfold fl1 at h4
  rw [ld_lo hq] at h4
  exact h4
theorem st2_n (h : st2 f b p d e Z Z1 al al1 sk1 x8) (hL : pL Z al a1 f) (hg : gk nv f) (hn : nv ≤ 8) (hp8 : p < 8) (h0 : 0 ≤ x8 ∧ x8 < Z a1 0) (hq : pw (al (a1 + 1) x8.toNat) (p : Int) ≠ (d : Int)) : st2 f b p d e Z Z1 al al1 sk1 (x8 + 1) := by
  obtain ⟨A, h1, h2, h3⟩ := h
  obtain ⟨y, e1, e2, e3, e4⟩ := fx hL h0
  rw [e2, Ne, pw_lo hg hn e4 ⟨rfl, hp8⟩ rfl] at hq
  rw [e1] at h3
  rw [ld_lo hq] at h3
  refine ⟨A, h1, fun k => ?_, h3⟩
  have h4 := h2 k
  rw [e1] at h4
  unfold fl2 at h4
  rw [ld_lo hq] at h4
  exact h4
/-- one turn: a multiple is added -/
theorem st1_y {y : Nat × Int64} {c : Int64} (hF : stF Z Z1 al al1 sk1 A) (hs : sk1 = 0 ∨ sk1 = 2) (h2 : ∀ k, cf A k + cf (fl1 f p d e (b.drop x8.toNat)) k = cf (fl1 f p d e b) k) (h3 : A.length + (lds (b.drop x8.toNat) p e).length * (nld f p d).length ≤ (lds b p e).length * (nld f p d).length) (e1 : b.drop x8.toNat = y :: b.drop (x8 + 1).toNat) (hy : dgt y.1 p = e) (hc : c = y.2) (ha : amR Z1 Z2 al1 al2 sk1 A (y.1 - e * 256 ^ p) c p d f A1) : st1 f b p d e Z Z2 al al2 (2 - sk1) (x8 + 1) := by
  refine ⟨A1, stF_am hF hs ha, fun k => ?_, ?_⟩
  · rw [ha.2.2.2.1 k, ← h2 k, e1]
    unfold fl1
    rw [ld_hi hy, List.flatMap_cons, cf_app, hc, Int64.add_assoc]
  · have h5 := ha.2.2.2.2
    rw [e1, ld_hi hy, List.length_cons, Nat.add_mul, Nat.one_mul] at h3
    omega
theorem st2_y {y : Nat × Int64} {c : Int64} (hF : stF Z Z1 al al1 sk1 A) (hs : sk1 = 0 ∨ sk1 = 2) (h2 : ∀ k, cf A k + cf (fl2 b p d e (f.drop x8.toNat)) k = cf (prC f b p d e) k) (h3 : A.length + (lds (f.drop x8.toNat) p d).length * (nld b p e).length ≤ (lds b p e).length * (nld f p d).length + (lds f p d).length * (nld b p e).length) (e1 : f.drop x8.toNat = y :: f.drop (x8 + 1).toNat) (hy : dgt y.1 p = d) (hc : c = -y.2) (ha : amR Z1 Z2 al1 al2 sk1 A (y.1 - e * 256 ^ p) c p e b A1) : st2 f b p d e Z Z2 al al2 (2 - sk1) (x8 + 1) := by
  refine ⟨A1, stF_am hF hs ha, fun k => ?_, ?_⟩
  · rw [ha.2.2.2.1 k, ← h2 k, e1]
    unfold fl2
    rw [ld_hi hy, List.flatMap_cons, cf_app, hc, Int64.add_assoc]
  · have h5 := ha.2.2.2.2
    rw [e1, ld_hi hy, List.length_cons, Nat.add_mul, Nat.one_mul] at h3
    omega
theorem st_12 (h : st1 f b p d e Z Z1 al al1 sk1 x8) (hx : (b.length : Int) ≤ x8) : st2 f b p d e Z Z1 al al1 sk1 0 := by
  obtain ⟨A, h1, h2, h3⟩ := h
  rw [show b.drop x8.toNat = [] from List.drop_eq_nil_of_le (by omega)] at h3
  refine ⟨A, h1, fun k => ?_, ?_⟩
  · have h4 := h2 k
    rw [show b.drop x8.toNat = [] from List.drop_eq_nil_of_le (by omega)] at h4
    have h5 : cf A k + 0 = cf (fl1 f p d e b) k := h4
    rw [Int64.add_zero] at h5
    rw [prC_e, cf_app, h5]
    rfl
  · have h5 : A.length + 0 * (nld f p d).length ≤ (lds b p e).length * (nld f p d).length := h3
    show A.length + (lds f p d).length * (nld b p e).length ≤ _
    omega
theorem st_rm1 (h3 : A.length + (lds (b.drop x8.toNat) p e).length * (nld f p d).length ≤ (lds b p e).length * (nld f p d).length) (hb : b.length ≤ 60) (hf : f.length ≤ 60) : A.length ≤ 3600 := by
  have h1 := ld_nl (f := b) (p := p) (d := e)
  have h2 := ld_nl (f := f) (p := p) (d := d)
  have h4 := rm_bd (β := (lds b p e).length) (nb := (nld b p e).length) (φ := (lds f p d).length) (nf := (nld f p d).length) (by omega) (by omega)
  have h6 := Nat.zero_le ((lds (b.drop x8.toNat) p e).length * (nld f p d).length)
  have h7 := Nat.zero_le ((lds f p d).length * (nld b p e).length)
  omega
theorem st_rm2 (h3 : A.length + (lds (f.drop x8.toNat) p d).length * (nld b p e).length ≤ (lds b p e).length * (nld f p d).length + (lds f p d).length * (nld b p e).length) (hb : b.length ≤ 60) (hf : f.length ≤ 60) : A.length ≤ 3600 := by
  have h1 := ld_nl (f := b) (p := p) (d := e)
  have h2 := ld_nl (f := f) (p := p) (d := d)
  have h4 := rm_bd (β := (lds b p e).length) (nb := (nld b p e).length) (φ := (lds f p d).length) (nf := (nld f p d).length) (by omega) (by omega)
  have h6 := Nat.zero_le ((lds (f.drop x8.toNat) p d).length * (nld b p e).length)
  omega
theorem st_fin (h2 : ∀ k, cf A k + cf (fl2 b p d e (f.drop x8.toNat)) k = cf (prC f b p d e) k) (hx : (f.length : Int) ≤ x8) (hS : nrm A) : stR f b p d e A := by
  refine ⟨hS, fun k => ?_⟩
  have h4 := h2 k
  rw [show f.drop x8.toNat = [] from List.drop_eq_nil_of_le (by omega)] at h4
  have h5 : cf A k + 0 = cf (prC f b p d e) k := h4
  rw [Int64.add_zero] at h5
  exact h5
theorem cf_key {l : Po} {x : Nat × Int64} (h : nrm A) (hx : x ∈ A) (hc : cf A x.1 = cf l x.1) : ∃ y, y ∈ l ∧ y.1 = x.1 := by
  by_cases q : ∃ y, y ∈ l ∧ y.1 = x.1
  · exact q
  · exfalso
    have h1 := (nrm_mem h).mp hx
    rw [cf_no (fun y hy e => q ⟨y, hy, e⟩)] at hc
    exact h1.1 (h1.2.symm.trans hc)
theorem st_key (h : stR f b p d e A) (hf : gk nv f) (hb : gk nv b) (hp : p < nv) (hn : nv ≤ 8) (hde : e ≤ d) : ∀ x, x ∈ A → x.1 < 256 ^ nv := fun x hx => by
  obtain ⟨y, hy, ey⟩ := cf_key h.1 hx (h.2 x.1)
  rw [← ey]
  unfold prC at hy
  rcases List.mem_append.mp hy with q | q
  · obtain ⟨u, hu, q⟩ := List.mem_flatMap.mp q
    obtain ⟨w, hw, rfl⟩ := List.mem_map.mp q
    have hu := List.mem_filter.mp hu
    have hw := List.mem_filter.mp hw
    have hd : dgt u.1 p = e := by simpa using hu.2
    exact (kb (gk_dg hf hw.1).1 (gk_dg hb hu.1).1 (gk_dg hf hw.1).2 (gk_dg hb hu.1).2 hp hn (by omega)).2.2
  · obtain ⟨u, hu, q⟩ := List.mem_flatMap.mp q
    obtain ⟨w, hw, rfl⟩ := List.mem_map.mp q
    have hu := List.mem_filter.mp hu
    have hw := List.mem_filter.mp hw
    have hd : dgt u.1 p = d := by simpa using hu.2
    exact (kb (gk_dg hb hw.1).1 (gk_dg hf hu.1).1 (gk_dg hb hw.1).2 (gk_dg hf hu.1).2 hp hn (by omega)).2.2
/-- what a step leaves -/
def stO (nv : Nat) (f b : Po) (p d e : Nat) (Z Z1 : Nat → Nat → Int) (al al1 : Nat → Nat → Int64) (a : Nat) (q : Int) : Prop := (∀ c, c ≠ 219 → c ≠ a → Z1 c = Z c) ∧ (∀ c, ty c ≠ 14 → c ≠ a + 1 → c ≠ a + 2 → al1 c = al c) ∧ ((q = 0 ∧ stP f b p d e = none) ∨ (q = 1 ∧ ∃ g, stP f b p d e = some g ∧ pL Z1 al1 a g ∧ gk nv g))
theorem stO_no (hF : stF Z Z1 al al1 sk1 A) (hR : stR f b p d e A) (hn : ¬ snP A) {a : Nat} : stO nv f b p d e Z Z1 al al1 a 0 := ⟨fun c h1 _ => stF_Z hF h1, fun c h1 _ _ => hF.1.2 c h1, Or.inl ⟨rfl, stP_none hR hn⟩⟩
theorem stO_yes {a : Nat} (hF : stF Z Z1 al al1 sk1 A) (hR : stR f b p d e A) (hs : snP A) (hf : gk nv f) (hb : gk nv b) (hp : p < nv) (hn : nv ≤ 8) (hde : e ≤ d) (hc : soK al1 al2 a sk1 (Z1 219 0)) (hz : Z2 = u2 Z1 a 0 (Z1 219 0)) : stO nv f b p d e Z Z2 al al2 a 1 := ⟨fun c h1 h2 => by rw [hz, u2_af h2, stF_Z hF h1], fun c h1 h2 h3 => by rw [hc.1 c h2 h3, hF.1.2 c h1], Or.inr ⟨rfl, A, stP_some hR hs, pL_so hF.2 hc (by rw [hz, u2_s]), hR.1, hs, st_key hR hf hb hp hn hde⟩⟩
end ST
