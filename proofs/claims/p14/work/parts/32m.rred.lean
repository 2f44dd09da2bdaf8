/-! Reducing in the reference. -/
def rH (sc sc1 : Nat → Int) (ai ai1 : Nat → Nat → Int) (al al1 : Nat → Nat → Int64) (az az1 : Nat → Nat → Int32) : Prop := (∀ j, j ≠ 27 → j ≠ 28 → j ≠ 38 → j ≠ 41 → sc1 j = sc j) ∧ ((∀ a, a ≠ 242 → a ≠ 252 → a ≠ 253 → a ≠ 254 → a ≠ 260 → ai1 a = ai a) ∧ ∀ s, s ≠ 69 → s ≠ 70 → ai1 242 s = ai 242 s) ∧ ((∀ a, a ≠ 243 → a ≠ 244 → a ≠ 255 → a ≠ 256 → a ≠ 257 → a ≠ 258 → al1 a = al a) ∧ ∀ a j, a = 243 ∨ a = 244 → j < 4140 ∨ 4260 ≤ j → al1 a j = al a j) ∧ ∀ a, a ≠ 259 → az1 a = az a
def bsQ (fr : Nat → Bool) (V : Nat → Nat) (nv : Nat) (ai : Nat → Nat → Int) (al : Nat → Nat → Int64) (n : Nat) (S : Nat → Po × Nat × Nat) : Prop := ∀ m, m < n → (16 ≤ ai 261 m ∧ ai 261 m < 67) ∧ (qL V nv ai al (ai 261 m).toNat (S m).1 ∧ gk nv (S m).1) ∧ plP fr nv (S m).1 = ((S m).2.1 : Int) ∧ (S m).2.2 = dgP (S m).1 (S m).2.1
section RR2
variable {fr : Nat → Bool} {V : Nat → Nat} {nv i n k : Nat} {S : Nat → Po × Nat × Nat} {sc sc1 sc2 : Nat → Int} {ai ai1 ai2 : Nat → Nat → Int} {al al1 al2 : Nat → Nat → Int64} {az az1 az2 : Nat → Nat → Int32} {f g f0 l : Po} {x3 : Int}
theorem rH_0 : rH sc sc ai ai al al az az := ⟨fun _ _ _ _ _ => rfl, ⟨fun _ _ _ _ _ _ => rfl, fun _ _ _ => rfl⟩, ⟨fun _ _ _ _ _ _ _ => rfl, fun _ _ _ _ => rfl⟩, fun _ _ => rfl⟩
theorem rH_tr (h : rH sc sc1 ai ai1 al al1 az az1) (g : rH sc1 sc2 ai1 ai2 al1 al2 az1 az2) : rH sc sc2 ai ai2 al al2 az az2 := ⟨fun j a b c d => (g.1 j a b c d).trans (h.1 j a b c d), ⟨fun a b c d e f => (g.2.1.1 a b c d e f).trans (h.2.1.1 a b c d e f), fun s s1 s2 => (g.2.1.2 s s1 s2).trans (h.2.1.2 s s1 s2)⟩, ⟨fun a b c d e f i => (g.2.2.1.1 a b c d e f i).trans (h.2.2.1.1 a b c d e f i), fun a j a1 a2 => (g.2.2.1.2 a j a1 a2).trans (h.2.2.1.2 a j a1 a2)⟩, fun a ha => (g.2.2.2 a ha).trans (h.2.2.2 a ha)⟩
theorem rH_F (h : rF sc sc1 ai ai1 al al1 az az1) : rH sc sc1 ai ai1 al al1 az az1 := ⟨fun j _ _ c _ => h.1 j c, ⟨fun a b _ _ _ f => h.2.1.1 a b f, h.2.1.2⟩, ⟨fun a b c _ _ f i => h.2.2.1.1 a b c f i, h.2.2.1.2⟩, h.2.2.2⟩
theorem rH_41 {v : Int} (e : sc1 = u1 sc 41 v) : rH sc sc1 ai ai al al az az := ⟨fun j _ _ _ d => by rw [e, u1_o d], ⟨fun _ _ _ _ _ _ => rfl, fun _ _ _ => rfl⟩, ⟨fun _ _ _ _ _ _ _ => rfl, fun _ _ _ _ => rfl⟩, fun _ _ => rfl⟩
theorem rH_vR (h : rH sc sc1 ai ai1 al al1 az az1) : vR ai1 = vR ai := by unfold vR; rw [h.2.1.1 240 (by decide) (by decide) (by decide) (by decide) (by decide)]
theorem rH_fr (h : rH sc sc1 ai ai1 al al1 az az1) : frR az1 ai1 = frR az ai := by unfold frR; rw [h.2.1.1 240 (by decide) (by decide) (by decide) (by decide) (by decide), h.2.2.2 239 (by decide)]
theorem rH_q (h : rH sc sc1 ai ai1 al al1 az az1) (hi : i < 69) (hL : qL V nv ai al i l) (h60 : ai 242 i ≤ 60) : qL V nv ai1 al1 i l := qL_cg hL (h.2.1.2 i (by omega) (by omega)) fun t ht => ⟨h.2.2.1.2 244 _ (Or.inr rfl) (by omega), h.2.2.1.2 243 _ (Or.inl rfl) (by omega)⟩
theorem rH_bs (h : rH sc sc1 ai ai1 al al1 az az1) (hK : tmok ai) (hb : bsQ fr V nv ai al n S) : bsQ fr V nv ai1 al1 n S := fun m hm => by
  obtain ⟨h1, ⟨h2, h3⟩, h4⟩ := hb m hm
  have e : ai1 261 = ai 261 := h.2.1.1 261 (by decide) (by decide) (by decide) (by decide) (by decide)
  rw [e]
  exact ⟨h1, ⟨rH_q h (by omega) h2 (hK.1 _).2, h3⟩, h4⟩
def rdJ (V : Nat → Nat) (nv : Nat) (S : Nat → Po × Nat × Nat) (k n : Nat) (f0 : Po) (sc sc1 : Nat → Int) (ai ai1 : Nat → Nat → Int) (al al1 : Nat → Nat → Int64) (az az1 : Nat → Nat → Int32) (x3 : Int) : Prop := ∃ f, (qL V nv ai1 al1 69 f ∧ gk nv f) ∧ tbG V nv sc1 ai1 al1 az1 [] ∧ ((0 ≤ sc1 41 ∧ sc1 41 ≤ (k : Int)) ∧ rdP S k n f0 = addk (sc1 41).toNat (rdP S (k - (sc1 41).toNat) (x3 + 1).toNat f)) ∧ rH sc sc1 ai ai1 al al1 az az1
def rdR (V : Nat → Nat) (nv : Nat) (r : Bool × Nat × Po) (sc sc1 : Nat → Int) (ai ai1 : Nat → Nat → Int) (al al1 : Nat → Nat → Int64) (az az1 : Nat → Nat → Int32) (q : Int) : Prop := ((0 ≤ q ∧ q ≤ 1) ∧ (q = 1 ↔ r.1 = true) ∧ sc1 41 = (r.2.1 : Int)) ∧ (q = 1 → qL V nv ai1 al1 69 r.2.2 ∧ gk nv r.2.2) ∧ tbG V nv sc1 ai1 al1 az1 [] ∧ rH sc sc1 ai ai1 al al1 az az1
theorem tbG_1 {v : Int} (h : tbG V nv sc ai al az []) (e : sc1 = u1 sc 41 v) : tbG V nv sc1 ai al az [] := by
  have : sc1 38 = sc 38 := by rw [e, u1_o (by decide)]
  unfold tbG tb
  rw [this]
  exact h
theorem rdJ_0 (hL : qL V nv ai al 69 f0) (hg : gk nv f0) (hG : tbG V nv sc ai al az []) (e : sc1 = u1 sc 41 0) (hx : (x3 + 1).toNat = n) : rdJ V nv S k n f0 sc sc1 ai ai al al az az x3 := ⟨f0, ⟨hL, hg⟩, tbG_1 hG e, ⟨by rw [e, u1_s]; omega, by rw [e, u1_s, hx]; rfl⟩, rH_41 e⟩
theorem rdJ_n (h1 : qL V nv ai1 al1 69 f ∧ gk nv f) (h2 : tbG V nv sc1 ai1 al1 az1 []) (h3 : 0 ≤ sc1 41 ∧ sc1 41 ≤ (k : Int)) (h4 : rdP S k n f0 = addk (sc1 41).toNat (rdP S (k - (sc1 41).toNat) (x3 + 1).toNat f)) (h5 : rH sc sc1 ai ai1 al al1 az az1) (hx : 0 ≤ x3) (hd : ¬ dueS S f x3.toNat) : rdJ V nv S k n f0 sc sc1 ai ai1 al al1 az az1 (x3 + -1) := by
  refine ⟨f, h1, h2, ⟨h3, ?_⟩, h5⟩
  rw [h4, show (x3 + 1).toNat = x3.toNat + 1 by omega, rd_no hd, show (x3 + -1 + 1).toNat = x3.toNat by omega]
theorem rdJ_s {v : Int} (h3 : 0 ≤ sc1 41 ∧ sc1 41 < (k : Int)) (h4 : rdP S k n f0 = addk (sc1 41).toNat (rdP S (k - (sc1 41).toNat) (x3 + 1).toNat f)) (h5 : rH sc sc1 ai ai1 al al1 az az1) (hx : 0 ≤ x3) (hd : dueS S f x3.toNat) (hs : stP f (S x3.toNat).1 (S x3.toNat).2.1 (dgP f (S x3.toNat).2.1) (S x3.toNat).2.2 = some g) (hL : qL V nv ai2 al2 69 g ∧ gk nv g) (hG : tbG V nv sc2 ai2 al2 az2 []) (hF : rF sc1 sc2 ai1 ai2 al1 al2 az1 az2) {sc3 : Nat → Int} (hv : v = sc1 41 + 1) (e : sc3 = u1 sc2 41 v) : rdJ V nv S k n f0 sc sc3 ai ai2 al al2 az az2 x3 := by
  have e41 : sc3 41 = sc1 41 + 1 := by rw [e, u1_s, hv]
  refine ⟨g, hL, tbG_1 hG e, ⟨by omega, ?_⟩, rH_tr (rH_tr h5 (rH_F hF)) (rH_41 e)⟩
  obtain ⟨m, em⟩ : ∃ m, k - (sc1 41).toNat = m + 1 := ⟨k - (sc1 41).toNat - 1, by omega⟩
  rw [h4, em, show (x3 + 1).toNat = x3.toNat + 1 by omega, rd_s hd hs, ak_ak, e41]
  congr 1
  · omega
  · congr 1
    omega
theorem rdR_t (h1 : qL V nv ai1 al1 69 f ∧ gk nv f) (h2 : tbG V nv sc1 ai1 al1 az1 []) (h3 : 0 ≤ sc1 41 ∧ sc1 41 ≤ (k : Int)) (h4 : rdP S k n f0 = addk (sc1 41).toNat (rdP S (k - (sc1 41).toNat) (x3 + 1).toNat f)) (h5 : rH sc sc1 ai ai1 al al1 az az1) (hx : x3 = -1) : rdR V nv (rdP S k n f0) sc sc1 ai ai1 al al1 az az1 1 := by
  rw [h4, show (x3 + 1).toNat = 0 by omega, rd_z]
  exact ⟨⟨by omega, ⟨fun _ => rfl, fun _ => rfl⟩, by show sc1 41 = ((0 + (sc1 41).toNat : Nat) : Int); omega⟩, fun _ => h1, h2, h5⟩
theorem rdR_f (h2 : tbG V nv sc2 ai2 al2 az2 []) (h3 : 0 ≤ sc1 41) (h4 : rdP S k n f0 = addk (sc1 41).toNat (rdP S (k - (sc1 41).toNat) (x3 + 1).toNat f)) (h5 : rH sc sc2 ai ai2 al al2 az az2) (e : sc2 41 = sc1 41) (hr : rdP S (k - (sc1 41).toNat) (x3 + 1).toNat f = (false, 0, f)) : rdR V nv (rdP S k n f0) sc sc2 ai ai2 al al2 az az2 0 := by
  rw [h4, hr]
  exact ⟨⟨by omega, ⟨fun z => absurd z (by decide), fun z => absurd z (by show ¬ false = true; decide)⟩, by show sc2 41 = ((0 + (sc1 41).toNat : Nat) : Int); omega⟩, fun z => absurd z (by decide), h2, h5⟩
end RR2
theorem re_mp {V : Nat → Nat} {nv i : Nat} {sc : Nat → Int} {ai : Nat → Nat → Int} {al : Nat → Nat → Int64} {az : Nat → Nat → Int32} {l : Po} {i1 : Int} (h : qL V nv ai al i l) (hV : pmV V nv) (hvr : vR ai = V) (hK : tmok ai) (hv : sc 1 = (nv : Int)) (hi : i1 = (i : Int)) : mpf (az 239) (ai 240) (fun v => dgf (al 244) (60 * i1).toNat v (ai 242 i1.toNat).toNat) (sc 1).toNat = plP (frR az ai) nv l := by
  rw [hv, Int.toNat_natCast]
  exact qL_mp h hV hvr (fun j => (hK.2 j).1) hi nv (Nat.le_refl _)
theorem re_o {V : Nat → Nat} {ai : Nat → Nat → Int} {p : Nat} (hK : tmok ai) (hvr : vR ai = V) : ai 240 p = (V p : Int) := by
  rw [← hvr]
  have := (hK.2 p).1
  show ai 240 p = ((ai 240 p).toNat : Int)
  omega
