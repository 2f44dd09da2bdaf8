/-! Steps that are kept: the reference's keepStep and prove. -/
def ksF (sc sc1 : Nat → Int) (ai ai1 : Nat → Nat → Int) (al al1 : Nat → Nat → Int64) (i1 : Int) : Prop := (∀ j, j ≠ 27 → j ≠ 28 → sc1 j = sc j) ∧ ((∀ a, a ≠ 242 → a ≠ 252 → a ≠ 253 → a ≠ 254 → ai1 a = ai a) ∧ (∀ s, s ≠ 70 → ai1 242 s = ai 242 s) ∧ ai1 252 = u1 (ai 252) (sc 27).toNat i1) ∧ ((∀ a, a ≠ 243 → a ≠ 244 → a ≠ 255 → a ≠ 256 → al1 a = al a) ∧ ∀ a j, a = 243 ∨ a = 244 → j < 4200 ∨ 4260 ≤ j → al1 a j = al a j)
def ksI (sc sc1 : Nat → Int) (ai ai1 : Nat → Nat → Int) (al al1 : Nat → Nat → Int64) (i1 x : Int) : Prop := ksF sc sc1 ai ai1 al al1 i1 ∧ sc1 27 = sc 27 ∧ sc1 28 = sc 28 + x
/-- what keeping the steps keeps -/
def kpI (sc : Nat → Int) (ai : Nat → Nat → Int) (m : Int) : Prop := sc 27 = m ∧ (0 ≤ sc 28 ∧ sc 28 ≤ 60 * m) ∧ ∀ s : Nat, (s : Int) < m → 0 ≤ ai 252 s ∧ ai 252 s < 8
section KS
variable {fr : Nat → Bool} {V : Nat → Nat} {nv m1 m2 m3 n k : Nat} {S : Nat → Po × Nat × Nat} {sc sc1 sc2 sc3 : Nat → Int} {ai ai1 ai2 ai3 ai4 : Nat → Nat → Int} {al al1 al2 al3 : Nat → Nat → Int64} {az az1 az2 : Nat → Nat → Int32} {f g f0 l : Po} {i1 x v w z : Int} {y1 y2 : Int64}
theorem ks_0 (hl : ldQ V nv ai ai1 al al1 l) (hm : m1 = (sc 27).toNat) (e1 : ai2 = u2 ai1 252 m1 i1) (e2 : ai3 = u2 ai2 253 m2 w) (e3 : ai4 = u2 ai3 254 m3 z) : ksI sc sc ai ai4 al al1 i1 0 := by
  have e0 := hl.2.1
  refine ⟨⟨fun _ _ _ => rfl, ⟨fun a b1 b2 b3 b4 => ?_, fun s hs => ?_, ?_⟩, fun a b1 b2 _ _ => hl.1.1 a b1 b2, fun a j _ hj => hl.1.2 a j hj⟩, rfl, by omega⟩
  · rw [e3, u2_af b4, e2, u2_af b3, e1, u2_af b2, e0, u2_af b1]
  · rw [e3, u2_af (by decide), e2, u2_af (by decide), e1, u2_af (by decide), e0, u2_o hs]
  · rw [e3, u2_af (by decide), e2, u2_af (by decide), e1, hm]
    funext j
    unfold u2 u1
    by_cases q : j = (sc 27).toNat
    · rw [if_pos ⟨rfl, q⟩, if_pos q]
    · rw [if_neg (fun c => q c.2), if_neg q, e0]
      exact if_neg (fun c => absurd c.1 (by decide))
theorem ks_s (h : ksI sc sc1 ai ai1 al al1 i1 x) (e1 : al2 = u2 al1 255 m1 y1) (e2 : al3 = u2 al2 256 m2 y2) (hv : v = sc1 28 + 1) (e3 : sc2 = u1 sc1 28 v) : ksI sc sc2 ai ai1 al al3 i1 (x + 1) := by
  obtain ⟨⟨h1, h2, h3, h4⟩, h5, h6⟩ := h
  refine ⟨⟨fun j j1 j2 => by rw [e3, u1_o j2]; exact h1 j j1 j2, h2, fun a b1 b2 b3 b4 => by rw [e2, u2_af b4, e1, u2_af b3]; exact h3 a b1 b2 b3 b4, fun a j ha hj => by rw [e2, u2_af (by omega), e1, u2_af (by omega)]; exact h4 a j ha hj⟩, by rw [e3, u1_o (by decide)]; exact h5, by rw [e3, u1_s, hv, h6]; omega⟩
theorem ks_e (h : ksI sc sc1 ai ai1 al al1 i1 x) (hv : v = sc1 27 + 1) (e : sc2 = u1 sc1 27 v) : ksF sc sc2 ai ai1 al al1 i1 ∧ sc2 27 = sc 27 + 1 ∧ sc2 28 = sc 28 + x := by
  obtain ⟨⟨h1, h2, h3⟩, h5, h6⟩ := h
  exact ⟨⟨fun j j1 j2 => by rw [e, u1_o j1]; exact h1 j j1 j2, h2, h3⟩, by rw [e, u1_s, hv, h5], by rw [e, u1_o (by decide)]; exact h6⟩
theorem ks_H (h : ksF sc sc1 ai ai1 al al1 i1) : rH sc sc1 ai ai1 al al1 az az := ⟨fun j a b _ _ => h.1 j a b, ⟨fun a b c d e _ => h.2.1.1 a b c d e, fun s _ s2 => h.2.1.2.1 s s2⟩, ⟨fun a b c d e _ _ => h.2.2.1 a b c d e, fun a j ha hj => h.2.2.2 a j ha (by omega)⟩, fun _ _ => rfl⟩
theorem ks_q (h : ksF sc sc1 ai ai1 al al1 i1) (hL : qL V nv ai al 69 l) (h60 : ai 242 69 ≤ 60) : qL V nv ai1 al1 69 l := qL_cg hL (h.2.1.2.1 69 (by decide)) fun t ht => ⟨h.2.2.2 244 _ (Or.inr rfl) (by omega), h.2.2.2 243 _ (Or.inl rfl) (by omega)⟩
theorem ks_G (h : ksF sc sc1 ai ai1 al al1 i1) (hG : tbG V nv sc ai al az []) : tbG V nv sc1 ai1 al1 az [] := by
  refine ⟨⟨?_, (h.1 38 (by decide) (by decide)).trans hG.1.2⟩, hG.2.1, fun t x e => by cases e⟩
  have hb := hG.1.1
  unfold tb at hb ⊢
  rw [h.1 38 (by decide) (by decide), h.2.1.1 260 (by decide) (by decide) (by decide) (by decide)]
  exact hb
theorem ks_k (h : ksF sc sc1 ai ai1 al al1 i1) (h7 : sc1 27 = sc 27 + 1) (h8 : sc1 28 = sc 28 + x) (hx : 0 ≤ x ∧ x ≤ 60) (hk : kpI sc ai v) (hv : 0 ≤ v) (hi : 0 ≤ i1 ∧ i1 < 8) : kpI sc1 ai1 (v + 1) := by
  obtain ⟨k1, k2, k3⟩ := hk
  refine ⟨by omega, by omega, fun s hs => ?_⟩
  rw [h.2.1.2.2]
  by_cases q : s = (sc 27).toNat
  · rw [q, u1_s]; exact hi
  · rw [u1_o q]; exact k3 s (by omega)
theorem kp_F (h : kpI sc ai v) (hF : rF sc sc1 ai ai1 al al1 az az1) : kpI sc1 ai1 v := by
  unfold kpI at h ⊢
  rw [hF.1 27 (by decide), hF.1 28 (by decide), hF.2.1.1 252 (by decide) (by decide)]
  exact h
theorem kp_41 (h : kpI sc ai v) (e : sc1 = u1 sc 41 w) : kpI sc1 ai v := by
  unfold kpI at h ⊢
  rw [e, u1_o (by decide), u1_o (by decide)]
  exact h
end KS
