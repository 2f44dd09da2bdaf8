/-! The places, exactly. -/
def vd (nv : Int) (V : Nat → Int) (v0 vh : vm_H) : Prop := vh.length = v0.length ∧ (∀ b, b ≠ 2 → b ≠ 3 → b ≠ 5 → vm_at vh b = vm_at v0 b) ∧ vm_at vh 2 = some (.inr (0, [.int (vz nv), .ref 3, .ref 4, .ref 5])) ∧ (∃ f : Nat → Int32, vm_at vh 3 = some (.inl (2, 8, .inl f))) ∧ vm_at vh 5 = some (.inl (0, 8, .inl (fun j => vz (V j))))
section VD
variable {nv m : Int} {V : Nat → Int} {v0 vh v1 : vm_H}
theorem vd_n (h : vd nv V v0 vh) (hb : vm_but 2 vh v1) (hc : vm_at v1 2 = some (.inr (0, [.int (vz m), .ref 3, .ref 4, .ref 5]))) : vd m V v0 v1 := ⟨hb.1.trans h.1, fun b h1 h2 h3 => (hb.2 b h1).trans (h.2.1 b h1 h2 h3), hc, (by obtain ⟨f, hf⟩ := h.2.2.2.1; exact ⟨f, (hb.2 3 (by decide)).trans hf⟩), (hb.2 5 (by decide)).trans h.2.2.2.2⟩
theorem vd_f {f : Nat → Int32} (h : vd nv V v0 vh) (hb : vm_but 3 vh v1) (hc : vm_at v1 3 = some (.inl (2, 8, .inl f))) : vd nv V v0 v1 := ⟨hb.1.trans h.1, fun b h1 h2 h3 => (hb.2 b h2).trans (h.2.1 b h1 h2 h3), (hb.2 2 (by decide)).trans h.2.2.1, ⟨f, hc⟩, (hb.2 5 (by decide)).trans h.2.2.2.2⟩
theorem vd_v {i : Nat} {q : Int} (h : vd nv V v0 vh) (hb : vm_but 5 vh v1) (hc : vm_at v1 5 = some (.inl (0, 8, .inl (upd (fun j => vz (V j)) i (vz q))))) : vd nv (u1 V i q) v0 v1 := by
  refine ⟨hb.1.trans h.1, fun b h1 h2 h3 => (hb.2 b h3).trans (h.2.1 b h1 h2 h3), (hb.2 2 (by decide)).trans h.2.2.1, ?_, ?_⟩
  · obtain ⟨f, hf⟩ := h.2.2.2.1
    exact ⟨f, (hb.2 3 (by decide)).trans hf⟩
  · rw [hc]
    have e : upd (fun j => vz (V j)) i (vz q) = fun j => vz (u1 V i q j) := by
      funext j
      unfold upd u1
      by_cases hj : j = i
      · rw [if_pos hj, if_pos hj]
      · rw [if_neg hj, if_neg hj]
    rw [e]
end VD
/-- every variable has a place -/
def onto (V : Nat → Int) (n : Int) : Prop := (∀ j, 0 ≤ V j ∧ V j < 8) ∧ ∀ v : Int, 0 ≤ v → v < n → ∃ j : Nat, (j : Int) < n ∧ V j = v
def holv (V : Nat → Int) (n v w : Int) : Prop := (∀ j, 0 ≤ V j ∧ V j < 8) ∧ ∀ u : Int, 0 ≤ u → u < n → u ≠ v → ∃ j : Nat, (j : Int) < n ∧ (j : Int) ≠ w ∧ V j = u
section HV
variable {V V1 : Nat → Int} {n v w x : Int}
theorem rngv {i : Nat} {c : Int} (h : ∀ j, 0 ≤ V j ∧ V j < 8) (hc : 0 ≤ c ∧ c < 8) (hd : V1 = u1 V i c) : ∀ j, 0 ≤ V1 j ∧ V1 j < 8 := fun j => by
  rw [hd]
  unfold u1
  split
  · exact hc
  · exact h j
theorem hv_0 (h : onto V n) (hw : 0 ≤ w) (hv : V w.toNat = v) : holv V n v w := by
  refine ⟨h.1, fun u h0 h1 h2 => ?_⟩
  obtain ⟨j, hj, hu⟩ := h.2 u h0 h1
  refine ⟨j, hj, fun e => h2 ?_, hu⟩
  rw [show w.toNat = j by omega] at hv
  rw [← hv, hu]
theorem hv_up {c : Int} (h : holv V n v w) (hw : 0 ≤ w ∧ w + 1 < n) (hc : c = V (w + 1).toNat) (hd : V1 = u1 V w.toNat c) : holv V1 n v (w + 1) := by
  refine ⟨rngv h.1 (by rw [hc]; exact h.1 _) hd, fun u h0 h1 h2 => ?_⟩
  obtain ⟨j, hj, hjw, hu⟩ := h.2 u h0 h1 h2
  by_cases q : (j : Int) = w + 1
  · refine ⟨w.toNat, by omega, by omega, ?_⟩
    rw [hd, u1_s, hc, ← hu]
    congr 1
    omega
  · exact ⟨j, hj, q, by rw [hd, u1_o (by omega)]; exact hu⟩
theorem hv_dn {c : Int} (h : holv V n v w) (hw : 0 < w ∧ w < n) (hc : c = V (w - 1).toNat) (hd : V1 = u1 V w.toNat c) : holv V1 n v (w - 1) := by
  refine ⟨rngv h.1 (by rw [hc]; exact h.1 _) hd, fun u h0 h1 h2 => ?_⟩
  obtain ⟨j, hj, hjw, hu⟩ := h.2 u h0 h1 h2
  by_cases q : (j : Int) = w - 1
  · refine ⟨w.toNat, by omega, by omega, ?_⟩
    rw [hd, u1_s, hc, ← hu]
    congr 1
    omega
  · exact ⟨j, hj, q, by rw [hd, u1_o (by omega)]; exact hu⟩
theorem hv_end (h : holv V n v w) (hw : 0 ≤ x ∧ x < n) (hv : 0 ≤ v ∧ v < 8) (e : w = x) (hd : V1 = u1 V x.toNat v) : onto V1 n := by
  refine ⟨rngv h.1 hv hd, fun u h0 h1 => ?_⟩
  by_cases q : u = v
  · exact ⟨x.toNat, by omega, by rw [hd, u1_s, q]⟩
  · obtain ⟨j, hj, hjw, hu⟩ := h.2 u h0 h1 q
    exact ⟨j, hj, by rw [hd, u1_o (by omega)]; exact hu⟩
theorem onto_add (h : onto V n) (h0 : 0 ≤ n ∧ n < 8) (hd : V1 = u1 V n.toNat n) : onto V1 (n + 1) := by
  refine ⟨rngv h.1 (by omega) hd, fun u h1 h2 => ?_⟩
  by_cases q : u = n
  · exact ⟨n.toNat, by omega, by rw [hd, u1_s, q]⟩
  · obtain ⟨j, hj, hu⟩ := h.2 u h1 (by omega)
    exact ⟨j, by omega, by rw [hd, u1_o (by omega)]; exact hu⟩
end HV
