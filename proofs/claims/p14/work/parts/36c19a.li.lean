/-! Both objects, as they stand between the law's calls, with what their polynomials hold. -/
abbrev D5u := (Nat → Int) × (Nat → Int) × (Nat → Nat → Int64) × (Nat → Nat → Int64)
abbrev D5w := (Nat → Int) × (Nat → List (Int64 × Int64))
def cU (vh : vm_H) (n : Int) (u : D5u) : Prop := vm_at vh 5 = some (.inl (0, 8, .inl (fun j => vz (u.1 j)))) ∧ onto u.1 n ∧ ∀ i, i < 16 → cP vh i (u.2.1 i) (u.2.2.1 i) (u.2.2.2 i)
def rW (ai : Nat → Nat → Int) (al : Nat → Nat → Int64) (w : D5w) : Prop := ∀ i : Nat, i < 16 → ai 242 i = w.1 i ∧ ls (pr_ al (60 * i)) (w.1 i).toNat = w.2 i
def lI (L : Nat) (xs : Nat → Int32) (vh : vm_H) (n p n2 p2 t : Int) (g : Int64) (u : D5u) (w : D5w) : Prop := ∃ (θ : tc_S) (sc : Nat → Int) (ai : Nat → Nat → Int) (al : Nat → Nat → Int64) (az : Nat → Nat → Int32) (fo : Nat → Int64), ((θ.1 = n ∧ θ.2.1 = p) ∧ (sc 1 = n2 ∧ sc 4 = p2) ∧ (sc 0 = t ∧ fo 0 = g)) ∧ tc θ ((false, false), vh) vh ∧ tm sc ai al az vh vh ∧ tmok ai ∧ gi sc ai al az ∧ ri2 sc ai al az ∧ vm_at vh 0 = some (.inl (0, L, .inl xs)) ∧ vm_at vh 263 = some (.inl (1, 1, .inr (.inl fo))) ∧ cU vh n u ∧ rW ai al w
section LI
variable {L : Nat} {xs : Nat → Int32} {vh v1 : vm_H} {n p n2 p2 t : Int} {g : Int64} {u ua : D5u} {w wa : D5w} {θ θ1 : tc_S} {sc sc1 : Nat → Int} {ai ai1 : Nat → Nat → Int} {al al1 : Nat → Nat → Int64} {az az1 : Nat → Nat → Int32} {fo : Nat → Int64}
theorem tm_rf {v0 : vm_H} (h : tm sc ai al az v0 vh) : tm sc ai al az vh vh := ⟨rfl, fun _ _ => rfl, h.2.2⟩
/-- cells that are alike -/
theorem tc_al (h : tc θ ((false, false), vh) vh) (e : ∀ a, a < 238 → vm_at v1 a = vm_at vh a) : tc θ ((false, false), v1) v1 := ⟨h.1, rfl, fun a => ⟨fun _ => rfl, by
  by_cases q : a < 238
  · rw [e a q]; exact (h.2.2 a).2
  · rw [ty_hi (by omega)]; exact trivial⟩⟩
theorem tm_al (h : tm sc ai al az vh vh) (e : ∀ a, 238 ≤ a → a < 263 → vm_at v1 a = vm_at vh a) : tm sc ai al az v1 v1 := ⟨rfl, fun _ _ => rfl, h.2.2.1, (e 238 (by decide) (by decide)).trans h.2.2.2.1, fun a ha => (e a (by omega) (by omega)).trans (h.2.2.2.2 a ha)⟩
theorem cU_al (h : cU vh n u) (e : ∀ b, 5 ≤ b ∧ b < 55 → vm_at v1 b = vm_at vh b) : cU v1 n u := ⟨(e 5 (by decide)).trans h.1, h.2.1, fun i hi => cP_keep (h.2.2 i hi) hi (hk7 e)⟩
theorem rW_fr {X Y : List Nat} {lo hi : Nat} (h : rW ai al w) (hk : tmok ai) (hf : fr X Y lo hi sc ai al az sc1 ai1 al1 az1) (hl : 16 ≤ lo ∨ hi < lo) : rW ai1 al1 w := fun i hi_ => by
  have h0 := hk.1 i
  have h1 := h i hi_
  have q := hf.2.2.2.1 i (by omega)
  refine ⟨q.1.trans h1.1, ?_⟩
  rw [← h1.2]
  refine ls_cg _ fun t ht => ?_
  have q2 := q.2 t (by omega)
  unfold pr_
  rw [q2.1, q2.2]
/-- the class has moved; its state is told by tc, its polynomials by cU -/
theorem lI_x (hk : kp vh v1) (hT : tc θ1 ((false, false), v1) v1) (hU : cU v1 θ1.1 ua) (hM : tm sc ai al az vh vh) (hK : tmok ai) (hI : gi sc ai al az) (hR : ri2 sc ai al az) (hS : vm_at vh 0 = some (.inl (0, L, .inl xs))) (hO : vm_at vh 263 = some (.inl (1, 1, .inr (.inl fo)))) (hW : rW ai al w) : lI L xs v1 θ1.1 θ1.2.1 (sc 1) (sc 4) (sc 0) (fo 0) ua w :=
  ⟨θ1, sc, ai, al, az, fo, ⟨⟨rfl, rfl⟩, ⟨rfl, rfl⟩, rfl, rfl⟩, hT, tm_al hM (fun a ha _ => hk a (ty_hi ha)), hK, hI, hR, (hk 0 rfl).trans hS, (hk 263 (ty_hi (by decide))).trans hO, hU, hW⟩
theorem lI_k (hT : tc θ1 ((false, true), vh) v1) (hn : θ1.1 = θ.1) (hU : cU vh θ.1 u) (hM : tm sc ai al az vh vh) (hK : tmok ai) (hI : gi sc ai al az) (hR : ri2 sc ai al az) (hS : vm_at vh 0 = some (.inl (0, L, .inl xs))) (hO : vm_at vh 263 = some (.inl (1, 1, .inr (.inl fo)))) (hW : rW ai al w) : lI L xs v1 θ1.1 θ1.2.1 (sc 1) (sc 4) (sc 0) (fo 0) u w :=
  lI_x (kp_c hT) (tc_rf5 hT) (by rw [hn]; exact cU_al hU (tc_keep hT)) hM hK hI hR hS hO hW
theorem lI_y (hT : tc θ ((false, false), vh) vh) (hU : cU vh θ.1 u) (hM : tm sc1 ai1 al1 az1 vh v1) (hK : tmok ai1) (hI : gi sc1 ai1 al1 az1) (hR : ri2 sc1 ai1 al1 az1) (hS : vm_at vh 0 = some (.inl (0, L, .inl xs))) (hO : vm_at vh 263 = some (.inl (1, 1, .inr (.inl fo)))) (hW : rW ai1 al1 wa) : lI L xs v1 θ.1 θ.2.1 (sc1 1) (sc1 4) (sc1 0) (fo 0) u wa :=
  ⟨θ, sc1, ai1, al1, az1, fo, ⟨⟨rfl, rfl⟩, ⟨rfl, rfl⟩, rfl, rfl⟩, tc_al hT (fun a ha => hM.2.1 a (Or.inl ha)), tm_rf hM, hK, hI, hR, (hM.2.1 0 (Or.inl (by decide))).trans hS, (hM.2.1 263 (Or.inr (by decide))).trans hO, cU_al hU (fun b hb => hM.2.1 b (Or.inl (by omega))), hW⟩
/-- another answer lies in the row -/
theorem lI_o {f : Nat → Int64} (h : lI L xs vh n p n2 p2 t g u w) (hb : vm_but 263 vh v1) (hf : vm_at v1 263 = some (.inl (1, 1, .inr (.inl f)))) : lI L xs v1 n p n2 p2 t (f 0) u w := by
  obtain ⟨θ, sc, ai, al, az, fo, ⟨h1, h2, h3, _⟩, hT, hM, hK, hI, hR, hS, hO, hU, hW⟩ := h
  exact ⟨θ, sc, ai, al, az, f, ⟨h1, h2, h3, rfl⟩, tc_al hT (fun a ha => hb.2 a (by omega)), tm_al hM (fun a _ ha => hb.2 a (by omega)), hK, hI, hR, (hb.2 0 (by decide)).trans hS, hf, cU_al hU (fun b h9 => hb.2 b (by omega)), hW⟩
/-- cells more, of which nothing is said -/
theorem vm_at_none (vh : vm_H) (j a : Nat) : vm_at (vh ++ List.replicate j none) a = vm_at vh a := by
  unfold vm_at
  by_cases h : a < vh.length
  · rw [List.getElem?_append_left h]
  · rw [List.getElem?_append_right (by omega), List.getElem?_eq_none (l := vh) (by omega), List.getElem?_replicate]
    split <;> rename_i q
    · split at q <;> simp at q
    · rfl
theorem lI_j (h : lI L xs vh n p n2 p2 t g u w) (j : Nat) : lI L xs (vh ++ List.replicate j none) n p n2 p2 t g u w := by
  obtain ⟨θ, sc, ai, al, az, fo, h1, hT, hM, hK, hI, hR, hS, hO, hU, hW⟩ := h
  exact ⟨θ, sc, ai, al, az, fo, h1, tc_al hT (fun a _ => vm_at_none vh j a), tm_al hM (fun a _ _ => vm_at_none vh j a), hK, hI, hR, (vm_at_none vh j 0).trans hS, (vm_at_none vh j 263).trans hO, cU_al hU (fun b _ => vm_at_none vh j b), hW⟩
theorem lI_0 (h : lI L xs vh n p n2 p2 t g u w) : vm_at vh 0 = some (.inl (0, L, .inl xs)) := by
  obtain ⟨θ, sc, ai, al, az, fo, h1, hT, hM, hK, hI, hR, hS, hO, hU, hW⟩ := h
  exact hS
theorem lI_263 (h : lI L xs vh n p n2 p2 t g u w) : ∃ f : Nat → Int64, vm_at vh 263 = some (.inl (1, 1, .inr (.inl f))) ∧ f 0 = g := by
  obtain ⟨θ, sc, ai, al, az, fo, h1, hT, hM, hK, hI, hR, hS, hO, hU, hW⟩ := h
  exact ⟨fo, hO, h1.2.2.2⟩
theorem lI_1 (h : lI L xs vh n p n2 p2 t g u w) : ∃ fs : List Value, vm_at vh 1 = some (.inr (5, fs)) := by
  obtain ⟨θ, sc, ai, al, az, fo, h1, hT, hM, hK, hI, hR, hS, hO, hU, hW⟩ := h
  obtain ⟨m1, m2, m3, m4, a1, a2, a3, a4, a5, a6, e⟩ := tc_main hT
  exact ⟨_, e⟩
theorem lI_238 (h : lI L xs vh n p n2 p2 t g u w) : ∃ fs : List Value, vm_at vh 238 = some (.inr (6, fs)) := by
  obtain ⟨θ, sc, ai, al, az, fo, h1, hT, hM, hK, hI, hR, hS, hO, hU, hW⟩ := h
  exact ⟨_, tm_o hM⟩
theorem lI_b (h : lI L xs vh n p n2 p2 t g u w) : ((0 ≤ n ∧ n ≤ 8) ∧ (0 ≤ p ∧ p ≤ 16)) ∧ (0 ≤ n2 ∧ n2 ≤ 8) ∧ (0 ≤ p2 ∧ p2 ≤ 16) := by
  obtain ⟨θ, sc, ai, al, az, fo, h1, hT, hM, hK, hI, hR, hS, hO, hU, hW⟩ := h
  have b1 := hT.1.1
  have b2 := hT.1.2.1
  have b3 := hI.1.1
  have e1 := h1.1.1
  have e2 := h1.1.2
  have e3 := h1.2.1.1
  have e4 := h1.2.1.2
  omega
/-- what the class's polynomials keep -/
def oU (n : Int) (u : D5u) : Prop := onto u.1 n ∧ ∀ i, i < 16 → (0 ≤ u.2.1 i ∧ u.2.1 i ≤ 60) ∧ ∀ t : Nat, (t : Int) < u.2.1 i → gl (u.2.2.2 i t)
theorem lI_u (h : lI L xs vh n p n2 p2 t g u w) : oU n u := by
  obtain ⟨θ, sc, ai, al, az, fo, h1, hT, hM, hK, hI, hR, hS, hO, hU, hW⟩ := h
  exact ⟨hU.2.1, fun i hi => (hU.2.2 i hi).1⟩
end LI
