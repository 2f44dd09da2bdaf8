/-! Rounds of the reference. -/
def aK (ai ai1 : Nat → Nat → Int) (al al1 : Nat → Nat → Int64) (az az1 : Nat → Nat → Int32) : Prop := ((∀ a, a ≠ 242 → a ≠ 252 → a ≠ 253 → a ≠ 254 → a ≠ 260 → a ≠ 261 → ai1 a = ai a) ∧ ∀ s, s < 16 ∨ s = 67 → ai1 242 s = ai 242 s) ∧ ((∀ a, a ≠ 243 → a ≠ 244 → a ≠ 255 → a ≠ 256 → a ≠ 257 → a ≠ 258 → al1 a = al a) ∧ ∀ a j, a = 243 ∨ a = 244 → j < 960 ∨ (4020 ≤ j ∧ j < 4080) → al1 a j = al a j) ∧ ∀ a, a ≠ 259 → az1 a = az a
def rK (sc sc1 : Nat → Int) (ai ai1 : Nat → Nat → Int) (al al1 : Nat → Nat → Int64) (az az1 : Nat → Nat → Int32) : Prop := (∀ j, j < 13 ∨ j = 15 ∨ (17 ≤ j ∧ j < 27) → sc1 j = sc j) ∧ aK ai ai1 al al1 az az1
def cnQ (V : Nat → Nat) (nv : Nat) (o : Option Po) (sc sc1 : Nat → Int) (ai1 : Nat → Nat → Int) (al1 : Nat → Nat → Int64) : Prop := match o with
  | some g => sc1 13 = 1 ∧ qL V nv ai1 al1 68 g ∧ gk nv g
  | none => sc1 13 = sc 13
def rnT (fr : Nat → Bool) (V : Nat → Nat) (nv : Nat) (B : List Nat) (c : Nat) (R1 : Nat → Po) (c1 s1 : Nat) (o : Option Po) (sc sc1 : Nat → Int) (ai ai1 : Nat → Nat → Int) (al al1 : Nat → Nat → Int64) (az az1 : Nat → Nat → Int32) : Prop := ((sc1 42 = (c1 : Int) ∧ c1 ≤ 40) ∧ (sc1 16 = (s1 : Int) ∧ s1 ≤ 1000) ∧ sc1 14 = sc 14 + 1) ∧ (rwQ V nv ai1 al1 R1 c1 ∧ ∀ r, r < c1 → plP fr nv (R1 r) ≠ -1) ∧ (mbQ sc1 ai1 B c ∧ c ≤ c1) ∧ tbG V nv sc1 ai1 al1 az1 [] ∧ cnQ V nv o sc sc1 ai1 al1 ∧ rK sc sc1 ai ai1 al al1 az az1
section RO
variable {fr : Nat → Bool} {V : Nat → Nat} {nv c c1 c2 s s1 s2 i : Nat} {R R1 R2 : Nat → Po} {B : List Nat} {sc sc1 sc2 sc3 : Nat → Int} {ai ai1 ai2 : Nat → Nat → Int} {al al1 al2 : Nat → Nat → Int64} {az az1 az2 : Nat → Nat → Int32} {f g l : Po} {v x : Int}
theorem aK_0 : aK ai ai al al az az := ⟨⟨fun _ _ _ _ _ _ _ => rfl, fun _ _ => rfl⟩, ⟨fun _ _ _ _ _ _ _ => rfl, fun _ _ _ _ => rfl⟩, fun _ _ => rfl⟩
theorem aK_tr (h : aK ai ai1 al al1 az az1) (g : aK ai1 ai2 al1 al2 az1 az2) : aK ai ai2 al al2 az az2 := ⟨⟨fun a b c d e f i => (g.1.1 a b c d e f i).trans (h.1.1 a b c d e f i), fun s hs => (g.1.2 s hs).trans (h.1.2 s hs)⟩, ⟨fun a b c d e f i => (g.2.1.1 a b c d e f i).trans (h.2.1.1 a b c d e f i), fun a j a1 a2 => (g.2.1.2 a j a1 a2).trans (h.2.1.2 a j a1 a2)⟩, fun a ha => (g.2.2 a ha).trans (h.2.2 a ha)⟩
theorem aK_H (h : rH sc sc1 ai ai1 al al1 az az1) : aK ai ai1 al al1 az az1 := ⟨⟨fun a b c d e f _ => h.2.1.1 a b c d e f, fun s hs => h.2.1.2 s (by omega) (by omega)⟩, ⟨h.2.2.1.1, fun a j ha hj => h.2.2.1.2 a j ha (by omega)⟩, h.2.2.2⟩
theorem aK_cp (h : cpQ V nv ai ai1 al al1 i l) (hi : 16 ≤ i ∧ i ≠ 67) : aK ai ai1 al al1 az az := ⟨⟨fun a b _ _ _ _ _ => by rw [h.1, u2_af b], fun s hs => by rw [h.1, u2_o (by omega)]⟩, ⟨fun a b c _ _ _ _ => h.2.1.1 a b c, fun a j _ hj => h.2.1.2 a j (by omega)⟩, fun _ _ => rfl⟩
theorem aK_pr (h : prR V nv ai al al1 i l) (hi : 16 ≤ i ∧ i ≠ 67) : aK ai ai al al1 az az := ⟨⟨fun _ _ _ _ _ _ _ => rfl, fun _ _ => rfl⟩, ⟨fun a b _ _ _ _ _ => h.1 a b, fun a j ha hj => by
  by_cases e : a = 243
  · subst e; exact h.2.1 j (by omega)
  · rw [h.1 a e]⟩, fun _ _ => rfl⟩
theorem aK_fb (h : ∀ a, a ≠ 261 → ai1 a = ai a) : aK ai ai1 al al az az := ⟨⟨fun a _ _ _ _ _ b => h a b, fun s _ => by rw [h 242 (by decide)]⟩, ⟨fun _ _ _ _ _ _ _ => rfl, fun _ _ _ _ => rfl⟩, fun _ _ => rfl⟩
theorem aK_vR (h : aK ai ai1 al al1 az az1) : vR ai1 = vR ai := by unfold vR; rw [h.1.1 240 (by decide) (by decide) (by decide) (by decide) (by decide) (by decide)]
theorem aK_fr (h : aK ai ai1 al al1 az az1) : frR az1 ai1 = frR az ai := by unfold frR; rw [h.1.1 240 (by decide) (by decide) (by decide) (by decide) (by decide) (by decide), h.2.2 239 (by decide)]
theorem rK_0 : rK sc sc ai ai al al az az := ⟨fun _ _ => rfl, aK_0⟩
theorem rK_tr (h : rK sc sc1 ai ai1 al al1 az az1) (g : rK sc1 sc2 ai1 ai2 al1 al2 az1 az2) : rK sc sc2 ai ai2 al al2 az az2 := ⟨fun j hj => (g.1 j hj).trans (h.1 j hj), aK_tr h.2 g.2⟩
theorem rK_a (h : aK ai ai1 al al1 az az1) : rK sc sc ai ai1 al al1 az az1 := ⟨fun _ _ => rfl, h⟩
theorem rK_H (h : rH sc sc1 ai ai1 al al1 az az1) : rK sc sc1 ai ai1 al al1 az az1 := ⟨fun j hj => h.1 j (by omega) (by omega) (by omega) (by omega), aK_H h⟩
theorem rK_s {j : Nat} (e : sc1 = u1 sc j v) (hj : ¬ (j < 13 ∨ j = 15 ∨ (17 ≤ j ∧ j < 27))) : rK sc sc1 ai ai al al az az := ⟨fun k hk => by rw [e, u1_o (fun z => by subst z; exact hj hk)], aK_0⟩
theorem rwQ_H (h : rwQ V nv ai al R c) (hc : c ≤ 40) (hK : tmok ai) (hH : rH sc sc1 ai ai1 al al1 az az1) : rwQ V nv ai1 al1 R c := fun r hr => ⟨rH_q hH (by omega) (h r hr).1 (hK.1 _).2, (h r hr).2⟩
theorem rwQ_cp (h : rwQ V nv ai al R c) (hK : tmok ai) (hq : cpQ V nv ai ai1 al al1 i l) (hi : 16 + c ≤ i) : rwQ V nv ai1 al1 R c := fun r hr => ⟨qL_cg (h r hr).1 (by rw [hq.1, u2_o (by omega)]) (fun t ht => by
  have := hK.1 (16 + r)
  exact ⟨hq.2.1.2 244 _ (by omega), hq.2.1.2 243 _ (by omega)⟩), (h r hr).2⟩
theorem rwQ_pr (h : rwQ V nv ai al R c) (hK : tmok ai) (hp : prR V nv ai al al1 i l) (hi : 16 + c ≤ i) : rwQ V nv ai al1 R c := fun r hr => ⟨qL_cg (h r hr).1 rfl (fun t ht => by
  have := hK.1 (16 + r)
  exact ⟨by rw [hp.1 244 (by decide)], hp.2.1 _ (by omega)⟩), (h r hr).2⟩
theorem mbQ_c (h : mbQ sc ai B c) (e : sc1 40 = sc 40) (e2 : ai1 261 = ai 261) : mbQ sc1 ai1 B c := ⟨⟨e.trans h.1.1, h.1.2⟩, h.2.1, fun j hj => by rw [e2]; exact h.2.2 j hj⟩
theorem tbG_c {G : Po} (h : tbG V nv sc ai al az G) (e0 : sc1 38 = sc 38) (e1 : ai1 260 = ai 260) (e2 : al1 257 = al 257) (e3 : al1 258 = al 258) : tbG V nv sc1 ai1 al1 az G := by
  unfold tbG tb tbE
  rw [e0, e1, e2, e3]
  exact h
theorem rt_cp (h : rnT fr V nv B c R1 c1 s1 none sc sc1 ai ai1 al al1 az az1) (hK : tmok ai1) (hq : cpQ V nv ai1 ai2 al1 al2 69 l) : rnT fr V nv B c R1 c1 s1 none sc sc1 ai ai2 al al2 az az1 := by
  obtain ⟨h1, ⟨h2, h2b⟩, ⟨h3, h4⟩, h5, h6, h7⟩ := h
  exact ⟨h1, ⟨rwQ_cp h2 hK hq (by have := h1.1.2; omega), h2b⟩, ⟨mbQ_c h3 rfl (by rw [hq.1, u2_af (by decide)]), h4⟩, tbG_c h5 rfl (by rw [hq.1, u2_af (by decide)]) (hq.2.1.1 257 (by decide) (by decide)) (hq.2.1.1 258 (by decide) (by decide)), h6, rK_tr h7 (rK_a (aK_cp hq (by decide)))⟩
theorem rt_H (h : rnT fr V nv B c R1 c1 s1 none sc sc1 ai ai1 al al1 az az1) (hK : tmok ai1) (hH : rH sc1 sc2 ai1 ai2 al1 al2 az1 az2) (hG : tbG V nv sc2 ai2 al2 az2 []) : rnT fr V nv B c R1 c1 s1 none sc sc2 ai ai2 al al2 az az2 := by
  obtain ⟨⟨h1, h1b, h1c⟩, ⟨h2, h2b⟩, ⟨h3, h4⟩, h5, h6, h7⟩ := h
  have es : ∀ j, j ≠ 27 → j ≠ 28 → j ≠ 38 → j ≠ 41 → sc2 j = sc1 j := hH.1
  refine ⟨⟨⟨(es 42 (by decide) (by decide) (by decide) (by decide)).trans h1.1, h1.2⟩, ⟨(es 16 (by decide) (by decide) (by decide) (by decide)).trans h1b.1, h1b.2⟩, (es 14 (by decide) (by decide) (by decide) (by decide)).trans h1c⟩, ⟨rwQ_H h2 h1.2 hK hH, h2b⟩, ⟨mbQ_c h3 (es 40 (by decide) (by decide) (by decide) (by decide)) (hH.2.1.1 261 (by decide) (by decide) (by decide) (by decide) (by decide)), h4⟩, hG, ?_, rK_tr h7 (rK_H hH)⟩
  show sc2 13 = sc 13
  rw [es 13 (by decide) (by decide) (by decide) (by decide)]
  exact h6
theorem rt_16 (h : rnT fr V nv B c R1 c1 s1 none sc sc1 ai ai1 al al1 az az1) (e : sc2 = u1 sc1 16 v) (hv : v = (s2 : Int)) (hs : s2 ≤ 1000) : rnT fr V nv B c R1 c1 s2 none sc sc2 ai ai1 al al1 az az1 := by
  obtain ⟨⟨h1, h1b, h1c⟩, h2, ⟨h3, h4⟩, h5, h6, h7⟩ := h
  refine ⟨⟨⟨by rw [e, u1_o (by decide)]; exact h1.1, h1.2⟩, ⟨by rw [e, u1_s, hv], hs⟩, by rw [e, u1_o (by decide)]; exact h1c⟩, h2, ⟨mbQ_c h3 (by rw [e, u1_o (by decide)]) rfl, h4⟩, tbG_c h5 (by rw [e, u1_o (by decide)]) rfl rfl rfl, ?_, rK_tr h7 (rK_s e (by omega))⟩
  show sc2 13 = sc 13
  rw [e, u1_o (by decide)]
  exact h6
theorem rt_pr (h : rnT fr V nv B c R1 c1 s1 none sc sc1 ai ai1 al al1 az az1) (hK : tmok ai1) (hp : prR V nv ai1 al1 al2 69 l) : rnT fr V nv B c R1 c1 s1 none sc sc1 ai ai1 al al2 az az1 := by
  obtain ⟨h1, ⟨h2, h2b⟩, h3, h5, h6, h7⟩ := h
  exact ⟨h1, ⟨rwQ_pr h2 hK hp (by have := h1.1.2; omega), h2b⟩, h3, tbG_c h5 rfl rfl (hp.1 257 (by decide)) (hp.1 258 (by decide)), h6, rK_tr h7 (rK_a (aK_pr hp (by decide)))⟩
theorem rwQ_new (h2 : rwQ V nv ai1 al1 R1 c1) (hK : tmok ai1) (hq : cpQ V nv ai1 ai2 al1 al2 (16 + c1) g) (hg : gk nv g) : rwQ V nv ai2 al2 (u1P R1 c1 g) (c1 + 1) := fun r hr => by
  by_cases e : r = c1
  · subst e
    have e1 : u1P R1 r g r = g := if_pos rfl
    rw [e1]
    exact ⟨hq.2.2, hg⟩
  · have e1 : u1P R1 c1 g r = R1 r := if_neg e
    rw [e1]
    exact rwQ_cp h2 hK hq (Nat.le_refl _) r (by omega)
theorem nn_new {R1 : Nat → Po} (h : ∀ r, r < c1 → plP fr nv (R1 r) ≠ -1) (hp : plP fr nv g ≠ -1) : ∀ r, r < c1 + 1 → plP fr nv (u1P R1 c1 g r) ≠ -1 := fun r hr => by
  by_cases e : r = c1
  · rw [show u1P R1 c1 g r = g from if_pos e]; exact hp
  · rw [show u1P R1 c1 g r = R1 r from if_neg e]; exact h r (by omega)
theorem rt_new (h : rnT fr V nv B c R1 c1 s1 none sc sc1 ai ai1 al al1 az az1) (hK : tmok ai1) (hq : cpQ V nv ai1 ai2 al1 al2 (16 + c1) g) (hg : gk nv g) (hp : plP fr nv g ≠ -1) (hc : c1 < 40) (e : sc2 = u1 sc1 42 v) (hv : v = (c1 : Int) + 1) : rnT fr V nv B c (u1P R1 c1 g) (c1 + 1) s1 none sc sc2 ai ai2 al al2 az az1 := by
  obtain ⟨⟨h1, h1b, h1c⟩, ⟨h2, h2b⟩, ⟨h3, h4⟩, h5, h6, h7⟩ := h
  refine ⟨⟨⟨by rw [e, u1_s, hv]; omega, by omega⟩, ⟨by rw [e, u1_o (by decide)]; exact h1b.1, h1b.2⟩, by rw [e, u1_o (by decide)]; exact h1c⟩, ⟨rwQ_new h2 hK hq hg, nn_new h2b hp⟩, ⟨mbQ_c h3 (by rw [e, u1_o (by decide)]) (by rw [hq.1, u2_af (by decide)]), by omega⟩, tbG_c h5 (by rw [e, u1_o (by decide)]) (by rw [hq.1, u2_af (by decide)]) (hq.2.1.1 257 (by decide) (by decide)) (hq.2.1.1 258 (by decide) (by decide)), ?_, rK_tr h7 (rK_tr (rK_a (aK_cp hq (by omega))) (rK_s e (by omega)))⟩
  show sc2 13 = sc 13
  rw [e, u1_o (by decide)]
  exact h6
theorem rt_cn (h : rnT fr V nv B c R1 c1 s1 none sc sc1 ai ai1 al al1 az az1) (hK : tmok ai1) (hq : cpQ V nv ai1 ai2 al1 al2 68 g) (hg : gk nv g) (e : sc2 = u1 sc1 13 1) : rnT fr V nv B c R1 c1 s1 (some g) sc sc2 ai ai2 al al2 az az1 := by
  obtain ⟨⟨h1, h1b, h1c⟩, ⟨h2, h2b⟩, ⟨h3, h4⟩, h5, h6, h7⟩ := h
  exact ⟨⟨⟨by rw [e, u1_o (by decide)]; exact h1.1, h1.2⟩, ⟨by rw [e, u1_o (by decide)]; exact h1b.1, h1b.2⟩, by rw [e, u1_o (by decide)]; exact h1c⟩, ⟨rwQ_cp h2 hK hq (by omega), h2b⟩, ⟨mbQ_c h3 (by rw [e, u1_o (by decide)]) (by rw [hq.1, u2_af (by decide)]), h4⟩, tbG_c h5 (by rw [e, u1_o (by decide)]) (by rw [hq.1, u2_af (by decide)]) (hq.2.1.1 257 (by decide) (by decide)) (hq.2.1.1 258 (by decide) (by decide)), ⟨by rw [e, u1_s], hq.2.2, hg⟩, rK_tr h7 (rK_tr (rK_a (aK_cp hq (by decide))) (rK_s e (by omega)))⟩
theorem rt_0 (hR : rwQ V nv ai al R c) (hN : ∀ r, r < c → plP fr nv (R r) ≠ -1) (hc : c ≤ 40) (h42 : sc 42 = (c : Int)) (h16 : sc 16 = (s : Int)) (hs : s ≤ 1000) (hG : tbG V nv sc ai al az []) (e1 : sc1 = u1 sc 14 v) (hv : v = sc 14 + 1) (hf : fbO fr nv R c sc1 sc2 ai ai2) : rnT fr V nv (bsP fr nv R c 8 []) c R c s none sc sc2 ai ai2 al al az az := by
  obtain ⟨h1, h2, h3⟩ := hf
  have es : ∀ j, j ≠ 14 → j ≠ 40 → sc2 j = sc j := fun j j1 j2 => by rw [h2, u1_o j2, e1, u1_o j1]
  refine ⟨⟨⟨(es 42 (by decide) (by decide)).trans h42, hc⟩, ⟨(es 16 (by decide) (by decide)).trans h16, hs⟩, by rw [h2, u1_o (by decide), e1, u1_s, hv]⟩, ⟨fun r hr => ⟨qL_cg (hR r hr).1 (by rw [h3 242 (by decide)]) fun _ _ => ⟨rfl, rfl⟩, (hR r hr).2⟩, hN⟩, ⟨h1, Nat.le_refl _⟩, tbG_c hG (es 38 (by decide) (by decide)) (h3 260 (by decide)) rfl rfl, es 13 (by decide) (by decide), rK_tr (rK_s e1 (by omega)) (rK_tr (rK_a (aK_fb h3)) (rK_s h2 (by omega)))⟩
theorem rt_bs (h : rnT fr V nv B c R1 c1 s1 none sc sc1 ai ai1 al al1 az az1) : bsQ fr V nv ai1 al1 B.length (mbP fr nv R1 B) := fun m hm => by
  obtain ⟨h1, ⟨h2, h2b⟩, ⟨h3, h4⟩, h5, h6, h7⟩ := h
  have hb : B.reverse.getD m 0 < c := h3.2.1 _ (gd_mem hm)
  have hb1 : B.reverse.getD m 0 < c1 := by omega
  have e := h3.2.2 m hm
  have h8 := h2 _ hb1
  have h9 := h2b _ hb1
  have hp := pl_bd (fr := fr) (nv := nv) (f := R1 (B.reverse.getD m 0))
  have hc := h1.1.2
  show (16 ≤ ai1 261 m ∧ ai1 261 m < 67) ∧ (qL V nv ai1 al1 (ai1 261 m).toNat (R1 (B.reverse.getD m 0)) ∧ gk nv (R1 (B.reverse.getD m 0))) ∧ plP fr nv (R1 (B.reverse.getD m 0)) = (((plP fr nv (R1 (B.reverse.getD m 0))).toNat : Nat) : Int) ∧ dmP fr nv (R1 (B.reverse.getD m 0)) = dgP (R1 (B.reverse.getD m 0)) (plP fr nv (R1 (B.reverse.getD m 0))).toNat
  refine ⟨by omega, ⟨?_, h8.2⟩, by omega, rfl⟩
  rw [e, show (16 + ((B.reverse.getD m 0 : Nat) : Int)).toNat = 16 + B.reverse.getD m 0 by omega]
  exact h8.1
/-- between two rows -/
def roI (fr : Nat → Bool) (V : Nat → Nat) (nv : Nat) (B : List Nat) (R : Nat → Po) (c s : Nat) (sc sc1 : Nat → Int) (ai ai1 : Nat → Nat → Int) (al al1 : Nat → Nat → Int64) (az az1 : Nat → Nat → Int32) (x : Int) : Prop := ∃ R1 c1 s1, rnT fr V nv B c R1 c1 s1 none sc sc1 ai ai1 al al1 az az1 ∧ rwP fr nv B c c 0 R c s = rwP fr nv B c (c - x.toNat) x.toNat R1 c1 s1
theorem ro_in (h : rnT fr V nv B c R1 c1 s1 none sc sc1 ai ai1 al al1 az az1) (hw : rwP fr nv B c c 0 R c s = rwP fr nv B c (c - x.toNat) x.toNat R1 c1 s1) (h0 : 0 ≤ x ∧ x < (c : Int)) (hr : x.toNat ∈ B) : roI fr V nv B R c s sc sc1 ai ai1 al al1 az az1 (x + 1) := by
  refine ⟨R1, c1, s1, h, ?_⟩
  rw [hw, show c - x.toNat = (c - (x + 1).toNat) + 1 by omega, rw_in hr, show (x + 1).toNat = x.toNat + 1 by omega]
theorem ro_out (h : rnT fr V nv B c R2 c2 s2 none sc sc1 ai ai1 al al1 az az1) (hw : rwP fr nv B c c 0 R c s = rwP fr nv B c (c - x.toNat) x.toNat R1 c1 s1) (h0 : 0 ≤ x ∧ x < (c : Int)) (hr : ¬ x.toNat ∈ B) (e : rsP fr nv B R1 c1 s1 x.toNat = (3, R2, c2, s2, none)) : roI fr V nv B R c s sc sc1 ai ai1 al al1 az az1 (x + 1) := by
  refine ⟨R2, c2, s2, h, ?_⟩
  rw [hw, show c - x.toNat = (c - (x + 1).toNat) + 1 by omega, rw_out hr, e, show (x + 1).toNat = x.toNat + 1 by omega]
  exact if_pos rfl
def roO (fr : Nat → Bool) (V : Nat → Nat) (nv : Nat) (R : Nat → Po) (c s : Nat) (sc sc1 : Nat → Int) (ai ai1 : Nat → Nat → Int) (al al1 : Nat → Nat → Int64) (az az1 : Nat → Nat → Int32) (q : Int) : Prop := rnT fr V nv (bsP fr nv R c 8 []) c (rnP fr nv R c s).2.1 (rnP fr nv R c s).2.2.1 (rnP fr nv R c s).2.2.2.1 (rnP fr nv R c s).2.2.2.2 sc sc1 ai ai1 al al1 az az1 ∧ (rnP fr nv R c s).1 = q
theorem ro_ret {a : Int} {o : Option Po} (h : rnT fr V nv (bsP fr nv R c 8 []) c R2 c2 s2 o sc sc1 ai ai1 al al1 az az1) (hw : rwP fr nv (bsP fr nv R c 8 []) c c 0 R c s = rwP fr nv (bsP fr nv R c 8 []) c (c - x.toNat) x.toNat R1 c1 s1) (h0 : 0 ≤ x ∧ x < (c : Int)) (hr : ¬ x.toNat ∈ bsP fr nv R c 8 []) (e : rsP fr nv (bsP fr nv R c 8 []) R1 c1 s1 x.toNat = (a, R2, c2, s2, o)) (ha : a ≠ 3) : roO fr V nv R c s sc sc1 ai ai1 al al1 az az1 a := by
  have e2 : rnP fr nv R c s = (a, R2, c2, s2, o) := by rw [mr_ret hw h0 hr (by rw [e]; exact ha), e]
  unfold roO
  rw [e2]
  exact ⟨h, rfl⟩
theorem ro_end {q : Int} (h : rnT fr V nv (bsP fr nv R c 8 []) c R1 c1 s1 none sc sc1 ai ai1 al al1 az az1) (hw : rwP fr nv (bsP fr nv R c 8 []) c c 0 R c s = rwP fr nv (bsP fr nv R c 8 []) c (c - x.toNat) x.toNat R1 c1 s1) (h0 : x = (c : Int)) (hq : (c1 = c ∧ q = 1) ∨ (c1 ≠ c ∧ q = 3)) : roO fr V nv R c s sc sc1 ai ai1 al al1 az az1 q := by
  have e2 : rnP fr nv R c s = (q, R1, c1, s1, none) := by
    rw [mr_end hw h0]
    rcases hq with ⟨q1, q2⟩ | ⟨q1, q2⟩
    · rw [if_pos q1, q2]
    · rw [if_neg q1, q2]
  unfold roO
  rw [e2]
  exact ⟨h, rfl⟩
theorem rd_no1 {t : Bool × Nat × Po} {q : Int} (h : rdR V nv t sc sc1 ai ai1 al al1 az az1 q) (hq : q = 0) : t.1 = false := by
  cases e : t.1 with
  | false => rfl
  | true =>
    have := h.1.2.1.mpr e
    omega
end RO
theorem rs_0x {fr : Nat → Bool} {nv c s r : Nat} {R : Nat → Po} {B : List Nat} (h : (rdP (mbP fr nv R B) (min 200 (1000 - s)) B.length (R r)).1 = true) (h1 : prP (rdP (mbP fr nv R B) (min 200 (1000 - s)) B.length (R r)).2.2 ≠ []) (h2 : ¬ ∃ j, j < c ∧ R j = prP (rdP (mbP fr nv R B) (min 200 (1000 - s)) B.length (R r)).2.2) (h3 : plP fr nv (prP (rdP (mbP fr nv R B) (min 200 (1000 - s)) B.length (R r)).2.2) = -1) : rsP fr nv B R c s r = (0, R, c, s + (rdP (mbP fr nv R B) (min 200 (1000 - s)) B.length (R r)).2.1, some (prP (rdP (mbP fr nv R B) (min 200 (1000 - s)) B.length (R r)).2.2)) := by
  rw [rs_x h (fun z => z.elim h1 h2), if_pos h3]
theorem rs_2x {fr : Nat → Bool} {nv c s r : Nat} {R : Nat → Po} {B : List Nat} (h : (rdP (mbP fr nv R B) (min 200 (1000 - s)) B.length (R r)).1 = true) (h1 : prP (rdP (mbP fr nv R B) (min 200 (1000 - s)) B.length (R r)).2.2 ≠ []) (h2 : ¬ ∃ j, j < c ∧ R j = prP (rdP (mbP fr nv R B) (min 200 (1000 - s)) B.length (R r)).2.2) (h3 : plP fr nv (prP (rdP (mbP fr nv R B) (min 200 (1000 - s)) B.length (R r)).2.2) ≠ -1) (h4 : 40 ≤ c) : rsP fr nv B R c s r = (2, R, c, s + (rdP (mbP fr nv R B) (min 200 (1000 - s)) B.length (R r)).2.1, none) := by
  rw [rs_x h (fun z => z.elim h1 h2), if_neg h3, if_pos h4]
theorem rs_3x {fr : Nat → Bool} {nv c s r : Nat} {R : Nat → Po} {B : List Nat} (h : (rdP (mbP fr nv R B) (min 200 (1000 - s)) B.length (R r)).1 = true) (h1 : prP (rdP (mbP fr nv R B) (min 200 (1000 - s)) B.length (R r)).2.2 ≠ []) (h2 : ¬ ∃ j, j < c ∧ R j = prP (rdP (mbP fr nv R B) (min 200 (1000 - s)) B.length (R r)).2.2) (h3 : plP fr nv (prP (rdP (mbP fr nv R B) (min 200 (1000 - s)) B.length (R r)).2.2) ≠ -1) (h4 : ¬ 40 ≤ c) : rsP fr nv B R c s r = (3, u1P R c (prP (rdP (mbP fr nv R B) (min 200 (1000 - s)) B.length (R r)).2.2), c + 1, s + (rdP (mbP fr nv R B) (min 200 (1000 - s)) B.length (R r)).2.1, none) := by
  rw [rs_x h (fun z => z.elim h1 h2), if_neg h3, if_neg h4]
