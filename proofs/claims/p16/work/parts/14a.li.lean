/-! Both objects, as they stand between the law's calls. -/
def lI (L : Nat) (xs : Nat → Int32) (vh : vm_H) (n p n2 p2 t : Int) (g : Int64) : Prop := ∃ (θ : tc_S) (sc : Nat → Int) (ai : Nat → Nat → Int) (al : Nat → Nat → Int64) (az : Nat → Nat → Int32) (fo : Nat → Int64), ((θ.1 = n ∧ θ.2.1 = p) ∧ (sc 1 = n2 ∧ sc 4 = p2) ∧ (sc 0 = t ∧ fo 0 = g)) ∧ tc θ (false, vh) vh ∧ tm sc ai al az vh vh ∧ tmok ai ∧ gi sc ai al az ∧ ri2 sc ai al az ∧ vm_at vh 0 = some (.inl (0, L, .inl xs)) ∧ vm_at vh 263 = some (.inl (1, 1, .inr (.inl fo)))
section LI
variable {L : Nat} {xs : Nat → Int32} {vh v1 : vm_H} {n p n2 p2 t : Int} {g : Int64} {θ θ1 : tc_S} {sc sc1 : Nat → Int} {ai ai1 : Nat → Nat → Int} {al al1 : Nat → Nat → Int64} {az az1 : Nat → Nat → Int32} {fo : Nat → Int64}
theorem tc_rf {v0 : Bool × vm_H} (h : tc θ v0 vh) : tc θ (false, vh) vh := ⟨h.1, rfl, fun a => ⟨fun _ => rfl, (h.2.2 a).2⟩⟩
theorem tm_rf {v0 : vm_H} (h : tm sc ai al az v0 vh) : tm sc ai al az vh vh := ⟨rfl, fun _ _ => rfl, h.2.2⟩
/-- cells that are alike -/
theorem tc_al (h : tc θ (false, vh) vh) (e : ∀ a, a < 238 → vm_at v1 a = vm_at vh a) : tc θ (false, v1) v1 := ⟨h.1, rfl, fun a => ⟨fun _ => rfl, by
  by_cases q : a < 238
  · rw [e a q]; exact (h.2.2 a).2
  · rw [ty_hi (by omega)]; exact trivial⟩⟩
theorem tm_al (h : tm sc ai al az vh vh) (e : ∀ a, 238 ≤ a → a < 263 → vm_at v1 a = vm_at vh a) : tm sc ai al az v1 v1 := ⟨rfl, fun _ _ => rfl, h.2.2.1, (e 238 (by decide) (by decide)).trans h.2.2.2.1, fun a ha => (e a (by omega) (by omega)).trans (h.2.2.2.2 a ha)⟩
theorem lI_x (hT : tc θ1 (false, vh) v1) (hM : tm sc ai al az vh vh) (hK : tmok ai) (hI : gi sc ai al az) (hR : ri2 sc ai al az) (hS : vm_at vh 0 = some (.inl (0, L, .inl xs))) (hO : vm_at vh 263 = some (.inl (1, 1, .inr (.inl fo)))) : lI L xs v1 θ1.1 θ1.2.1 (sc 1) (sc 4) (sc 0) (fo 0) :=
  ⟨θ1, sc, ai, al, az, fo, ⟨⟨rfl, rfl⟩, ⟨rfl, rfl⟩, rfl, rfl⟩, tc_rf hT, tm_al hM (fun a ha _ => (hT.2.2 a).1 (Or.inl (ty_hi ha))), hK, hI, hR, ((hT.2.2 0).1 (Or.inl rfl)).trans hS, ((hT.2.2 263).1 (Or.inl (ty_hi (by decide)))).trans hO⟩
theorem lI_y (hT : tc θ (false, vh) vh) (hM : tm sc1 ai1 al1 az1 vh v1) (hK : tmok ai1) (hI : gi sc1 ai1 al1 az1) (hR : ri2 sc1 ai1 al1 az1) (hS : vm_at vh 0 = some (.inl (0, L, .inl xs))) (hO : vm_at vh 263 = some (.inl (1, 1, .inr (.inl fo)))) : lI L xs v1 θ.1 θ.2.1 (sc1 1) (sc1 4) (sc1 0) (fo 0) :=
  ⟨θ, sc1, ai1, al1, az1, fo, ⟨⟨rfl, rfl⟩, ⟨rfl, rfl⟩, rfl, rfl⟩, tc_al hT (fun a ha => hM.2.1 a (Or.inl ha)), tm_rf hM, hK, hI, hR, (hM.2.1 0 (Or.inl (by decide))).trans hS, (hM.2.1 263 (Or.inr (by decide))).trans hO⟩
/-- another answer lies in the row -/
theorem lI_o {f : Nat → Int64} (h : lI L xs vh n p n2 p2 t g) (hb : vm_but 263 vh v1) (hf : vm_at v1 263 = some (.inl (1, 1, .inr (.inl f)))) : lI L xs v1 n p n2 p2 t (f 0) := by
  obtain ⟨θ, sc, ai, al, az, fo, ⟨h1, h2, h3, _⟩, hT, hM, hK, hI, hR, hS, hO⟩ := h
  exact ⟨θ, sc, ai, al, az, f, ⟨h1, h2, h3, rfl⟩, tc_al hT (fun a ha => hb.2 a (by omega)), tm_al hM (fun a _ ha => hb.2 a (by omega)), hK, hI, hR, (hb.2 0 (by decide)).trans hS, hf⟩
/-- cells more, of which nothing is said -/
theorem vm_at_none (vh : vm_H) (j a : Nat) : vm_at (vh ++ List.replicate j none) a = vm_at vh a := by
  unfold vm_at
  by_cases h : a < vh.length
  · rw [List.getElem?_append_left h]
  · rw [List.getElem?_append_right (by omega), List.getElem?_eq_none (l := vh) (by omega), List.getElem?_replicate]
    split <;> rename_i q
    · split at q <;> simp at q
    · rfl
theorem lI_j (h : lI L xs vh n p n2 p2 t g) (j : Nat) : lI L xs (vh ++ List.replicate j none) n p n2 p2 t g := by
  obtain ⟨θ, sc, ai, al, az, fo, h1, hT, hM, hK, hI, hR, hS, hO⟩ := h
  exact ⟨θ, sc, ai, al, az, fo, h1, tc_al hT (fun a _ => vm_at_none vh j a), tm_al hM (fun a _ _ => vm_at_none vh j a), hK, hI, hR, (vm_at_none vh j 0).trans hS, (vm_at_none vh j 263).trans hO⟩
theorem lI_0 (h : lI L xs vh n p n2 p2 t g) : vm_at vh 0 = some (.inl (0, L, .inl xs)) := by
  obtain ⟨θ, sc, ai, al, az, fo, h1, hT, hM, hK, hI, hR, hS, hO⟩ := h
  exact hS
theorem lI_263 (h : lI L xs vh n p n2 p2 t g) : ∃ f : Nat → Int64, vm_at vh 263 = some (.inl (1, 1, .inr (.inl f))) ∧ f 0 = g := by
  obtain ⟨θ, sc, ai, al, az, fo, h1, hT, hM, hK, hI, hR, hS, hO⟩ := h
  exact ⟨fo, hO, h1.2.2.2⟩
theorem lI_1 (h : lI L xs vh n p n2 p2 t g) : ∃ fs : List Value, vm_at vh 1 = some (.inr (5, fs)) := by
  obtain ⟨θ, sc, ai, al, az, fo, h1, hT, hM, hK, hI, hR, hS, hO⟩ := h
  obtain ⟨m1, m2, m3, m4, a1, a2, a3, a4, a5, a6, e⟩ := tc_main hT
  exact ⟨_, e⟩
theorem lI_238 (h : lI L xs vh n p n2 p2 t g) : ∃ fs : List Value, vm_at vh 238 = some (.inr (6, fs)) := by
  obtain ⟨θ, sc, ai, al, az, fo, h1, hT, hM, hK, hI, hR, hS, hO⟩ := h
  exact ⟨_, tm_o hM⟩
end LI
