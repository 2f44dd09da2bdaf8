section TD
variable {θ θ1 : tc_S} {v0 : (Bool × Bool) × vm_H} {vh v1 : vm_H} {a : Nat} {c : va_E}
theorem tc.chg {t : Nat} (h : tc θ v0 vh) (hb : vm_but a vh v1) (hc : vm_at v1 a = some c) (ha : ty a = t) (h0 : t ≠ 0 ∧ (t = 16 → v0.1.1 = false)) (hu : a < 5 ∨ 55 ≤ a) (ho : tc_ok θ1) (hq : tq θ1 t a (some c)) (hr : ∀ b, b ≠ a → tq θ (ty b) b (vm_at vh b) → tq θ1 (ty b) b (vm_at vh b)) : tc θ1 v0 v1 := by
  refine ⟨ho, hb.1.trans h.2.1, fun b => ?_⟩
  by_cases hab : b = a
  · subst hab
    rw [hc, ha]
    refine ⟨fun q => ?_, hq⟩
    rcases q with q | q | q
    · exact absurd q h0.1
    · have h9 := h0.2 q.2
      rw [q.1] at h9
      cases h9
    · exfalso
      omega
  · rw [hb.2 b hab]
    exact ⟨(h.2.2 b).1, hr b hab (h.2.2 b).2⟩
theorem ty_u : ∀ b, b < 238 → (ty b = 4 → b = 2) ∧ (ty b = 16 → b = 1) ∧ (ty b = 9 → b = 55) ∧ (ty b = 12 → b = 218) := by decide +kernel
theorem ty_u4 {b : Nat} (h : ty b = 4) : b = 2 := (ty_u b (ty_lo (by rw [h]; decide))).1 h
theorem ty_u16 {b : Nat} (h : ty b = 16) : b = 1 := (ty_u b (ty_lo (by rw [h]; decide))).2.1 h
theorem ty_u9 {b : Nat} (h : ty b = 9) : b = 55 := (ty_u b (ty_lo (by rw [h]; decide))).2.2.1 h
theorem ty_u12 {b : Nat} (h : ty b = 12) : b = 218 := (ty_u b (ty_lo (by rw [h]; decide))).2.2.2 h
end TD
theorem tq_cnt {θ : tc_S} {b t : Nat} {c : Option va_E} {n1 : Int} (n4 : t ≠ 4) (h : tq θ t b c) : tq (n1, θ.2) t b c := by
  match t, n4, h with
  | 0, _, _ => exact trivial
  | 1, _, h => exact h
  | 2, _, h => exact h
  | 3, _, h => exact h
  | 4, nn, _ => exact absurd rfl nn
  | 5, _, h => exact h
  | 6, _, h => exact h
  | 7, _, h => exact h
  | 8, _, h => exact h
  | 9, _, h => exact h
  | 10, _, h => exact h
  | 11, _, h => exact h
  | 12, _, h => exact h
  | 13, _, h => exact h
  | 14, _, h => exact h
  | 15, _, h => exact h
  | 16, _, h => exact h
  | n + 17, _, _ => exact trivial
theorem tq_pc {θ : tc_S} {b t : Nat} {c : Option va_E} {n1 : Int} (n16 : t ≠ 16) (h : tq θ t b c) : tq (θ.1, n1, θ.2.2) t b c := by
  match t, n16, h with
  | 0, _, _ => exact trivial
  | 1, _, h => exact h
  | 2, _, h => exact h
  | 3, _, h => exact h
  | 4, _, h => exact h
  | 5, _, h => exact h
  | 6, _, h => exact h
  | 7, _, h => exact h
  | 8, _, h => exact h
  | 9, _, h => exact h
  | 10, _, h => exact h
  | 11, _, h => exact h
  | 12, _, h => exact h
  | 13, _, h => exact h
  | 14, _, h => exact h
  | 15, _, h => exact h
  | 16, nn, _ => exact absurd rfl nn
  | n + 17, _, _ => exact trivial
theorem tq_hy {θ : tc_S} {b t : Nat} {c : Option va_E} {n1 : Nat → Int32} (n9 : t ≠ 9) (h : tq θ t b c) : tq (θ.1, θ.2.1, n1, θ.2.2.2) t b c := by
  match t, n9, h with
  | 0, _, _ => exact trivial
  | 1, _, h => exact h
  | 2, _, h => exact h
  | 3, _, h => exact h
  | 4, _, h => exact h
  | 5, _, h => exact h
  | 6, _, h => exact h
  | 7, _, h => exact h
  | 8, _, h => exact h
  | 9, nn, _ => exact absurd rfl nn
  | 10, _, h => exact h
  | 11, _, h => exact h
  | 12, _, h => exact h
  | 13, _, h => exact h
  | 14, _, h => exact h
  | 15, _, h => exact h
  | 16, _, h => exact h
  | n + 17, _, _ => exact trivial
theorem tq_dr {θ : tc_S} {b t : Nat} {c : Option va_E} {n1 : Int} (n16 : t ≠ 16) (h : tq θ t b c) : tq (θ.1, θ.2.1, θ.2.2.1, n1, θ.2.2.2.2) t b c := by
  match t, n16, h with
  | 0, _, _ => exact trivial
  | 1, _, h => exact h
  | 2, _, h => exact h
  | 3, _, h => exact h
  | 4, _, h => exact h
  | 5, _, h => exact h
  | 6, _, h => exact h
  | 7, _, h => exact h
  | 8, _, h => exact h
  | 9, _, h => exact h
  | 10, _, h => exact h
  | 11, _, h => exact h
  | 12, _, h => exact h
  | 13, _, h => exact h
  | 14, _, h => exact h
  | 15, _, h => exact h
  | 16, nn, _ => exact absurd rfl nn
  | n + 17, _, _ => exact trivial
theorem tq_h {θ : tc_S} {b t : Nat} {c : Option va_E} {n1 : Int} (hn : θ.2.2.2.2 ≤ n1) (n12 : t ≠ 12) (h : tq θ t b c) : tq (θ.1, θ.2.1, θ.2.2.1, θ.2.2.2.1, n1) t b c := by
  match t, n12, h with
  | 0, _, _ => exact trivial
  | 1, _, h => exact h
  | 2, _, h => exact h
  | 3, _, h => exact h
  | 4, _, h => exact h
  | 5, _, h => exact h
  | 6, _, h => exact h
  | 7, _, h => exact h
  | 8, _, h => exact h
  | 9, _, h => exact h
  | 10, _, h => exact h
  | 11, _, h => (obtain ⟨s, h1, h2⟩ := h; exact ⟨s, ⟨h1.1, Int.le_trans h1.2 hn⟩, h2⟩)
  | 12, nn, _ => exact absurd rfl nn
  | 13, _, h => exact h
  | 14, _, h => exact h
  | 15, _, h => exact h
  | 16, _, h => exact h
  | n + 17, _, _ => exact trivial
section TE
variable {θ : tc_S} {v0 : (Bool × Bool) × vm_H} {vh v1 : vm_H} {n1 : Int}
theorem ts_count (h : tc θ v0 vh) (hn : 0 ≤ n1 ∧ n1 ≤ 8) (hb : vm_but 2 vh v1) (hc : vm_at v1 2 = some (.inr (0, [.int (vz n1), .ref 3, .ref 4, .ref 5]))) : ∃ θ1 : tc_S, θ1.2.2.1 = θ.2.2.1 ∧ (θ1.1 = n1 ∧ θ1.2.1 = θ.2.1 ∧ θ1.2.2.2.1 = θ.2.2.2.1 ∧ θ1.2.2.2.2 = θ.2.2.2.2) ∧ tc θ1 v0 v1 :=
  ⟨(n1, θ.2), rfl, ⟨rfl, rfl, rfl, rfl⟩, h.chg hb hc (t := 4) rfl ⟨by decide, fun q => absurd q (by decide)⟩ (by decide) ⟨hn, h.1.2⟩ rfl (fun b hne hq => tq_cnt (fun e => hne (ty_u4 e)) hq)⟩
theorem ts_pc {rc : Int} {ws ds ps : Int32} (hz : v0.1.1 = false) (h : tc θ v0 vh) (hn : 0 ≤ n1 ∧ n1 ≤ 16) (hr : 0 ≤ rc ∧ rc ≤ 40) (hb : vm_but 1 vh v1) (hc : vm_at v1 1 = some (.inr (5, [.ref 2, .ref 6, .ref 55, .int (vz n1), .ref 56, .int (vz rc), .ref 217, .ref 219, .ref 224, .ref 227, .ref 230, .ref 233, .ref 234, .ref 237, .int ws, .int (vz θ.2.2.2.1), .int ds, .int ps]))) : ∃ θ1 : tc_S, θ1.2.2.1 = θ.2.2.1 ∧ (θ1.1 = θ.1 ∧ θ1.2.1 = n1 ∧ θ1.2.2.2.1 = θ.2.2.2.1 ∧ θ1.2.2.2.2 = θ.2.2.2.2) ∧ tc θ1 v0 v1 :=
  ⟨(θ.1, n1, θ.2.2), rfl, ⟨rfl, rfl, rfl, rfl⟩, h.chg hb hc (t := 16) rfl ⟨by decide, fun _ => hz⟩ (by decide) ⟨h.1.1, hn, h.1.2.2⟩ ⟨rc, ws, ds, ps, hr, rfl⟩ (fun b hne hq => tq_pc (fun e => hne (ty_u16 e)) hq)⟩
theorem ts_dr {rc : Int} {ws ds ps : Int32} (hz : v0.1.1 = false) (h : tc θ v0 vh) (hn : -2147483648 ≤ n1 ∧ n1 < 2147483648) (hr : 0 ≤ rc ∧ rc ≤ 40) (hb : vm_but 1 vh v1) (hc : vm_at v1 1 = some (.inr (5, [.ref 2, .ref 6, .ref 55, .int (vz θ.2.1), .ref 56, .int (vz rc), .ref 217, .ref 219, .ref 224, .ref 227, .ref 230, .ref 233, .ref 234, .ref 237, .int ws, .int (vz n1), .int ds, .int ps]))) : ∃ θ1 : tc_S, θ1.2.2.1 = θ.2.2.1 ∧ (θ1.1 = θ.1 ∧ θ1.2.1 = θ.2.1 ∧ θ1.2.2.2.1 = n1 ∧ θ1.2.2.2.2 = θ.2.2.2.2) ∧ tc θ1 v0 v1 :=
  ⟨(θ.1, θ.2.1, θ.2.2.1, n1, θ.2.2.2.2), rfl, ⟨rfl, rfl, rfl, rfl⟩, h.chg hb hc (t := 16) rfl ⟨by decide, fun _ => hz⟩ (by decide) ⟨h.1.1, h.1.2.1, hn, h.1.2.2.2⟩ ⟨rc, ws, ds, ps, hr, rfl⟩ (fun b hne hq => tq_dr (fun e => hne (ty_u16 e)) hq)⟩
theorem ts_hy {hy : Nat → Int32} (h : tc θ v0 vh) (hb : vm_but 55 vh v1) (hc : vm_at v1 55 = some (.inl (2, 16, .inl hy))) : ∃ θ1 : tc_S, θ1.2.2.1 = hy ∧ (θ1.1 = θ.1 ∧ θ1.2.1 = θ.2.1 ∧ θ1.2.2.2.1 = θ.2.2.2.1 ∧ θ1.2.2.2.2 = θ.2.2.2.2) ∧ tc θ1 v0 v1 :=
  ⟨(θ.1, θ.2.1, hy, θ.2.2.2), rfl, ⟨rfl, rfl, rfl, rfl⟩, h.chg hb hc (t := 9) rfl ⟨by decide, fun q => absurd q (by decide)⟩ (by decide) ⟨h.1.1, h.1.2.1, h.1.2.2⟩ rfl (fun b hne hq => tq_hy (fun e => hne (ty_u9 e)) hq)⟩
theorem ts_mem {f : Nat → Option Nat} {i : Int} {d : Nat} (h : tc θ v0 vh) (hf : ∀ j : Nat, (j : Int) < θ.2.2.2.2 → ∃ b, f j = some b ∧ ty b = 3) (hi : 0 ≤ i ∧ i ≤ θ.2.2.2.2 ∧ i < 8) (hd : ty d = 3) (hb : vm_but 218 vh v1) (hc : vm_at v1 218 = some (.inl (4, 8, .inr (.inr (.inr (.inr (va_up f i.toNat (some d)))))))) : ∃ θ1 : tc_S, θ1.2.2.1 = θ.2.2.1 ∧ (θ1.1 = θ.1 ∧ θ1.2.1 = θ.2.1 ∧ θ1.2.2.2.1 = θ.2.2.2.1 ∧ i + 1 ≤ θ1.2.2.2.2 ∧ θ.2.2.2.2 ≤ θ1.2.2.2.2) ∧ tc θ1 v0 v1 := by
  have hh := h.1.2.2.2
  obtain ⟨n, hn1, hn2, hn3, hn4⟩ : ∃ n : Int, i + 1 ≤ n ∧ θ.2.2.2.2 ≤ n ∧ n ≤ 8 ∧ (n = i + 1 ∨ n = θ.2.2.2.2) := by
    by_cases q : i + 1 ≤ θ.2.2.2.2
    · exact ⟨_, q, Int.le_refl _, hh.2, Or.inr rfl⟩
    · exact ⟨i + 1, Int.le_refl _, by omega, by omega, Or.inl rfl⟩
  refine ⟨(θ.1, θ.2.1, θ.2.2.1, θ.2.2.2.1, n), rfl, ⟨rfl, rfl, rfl, hn1, hn2⟩, h.chg hb hc (t := 12) rfl ⟨by decide, fun q => absurd q (by decide)⟩ (by decide) ⟨h.1.1, h.1.2.1, h.1.2.2.1, ⟨show 0 ≤ n by omega, hn3⟩⟩ ⟨_, fun j hj => ?_, rfl⟩ (fun b hne hq => tq_h hn2 (fun e => hne (ty_u12 e)) hq)⟩
  have hj : (j : Int) < n := hj
  unfold va_up
  by_cases q : j = i.toNat
  · exact ⟨d, by simp [q], hd⟩
  · obtain ⟨b, h1, h2⟩ := hf j (by omega)
    exact ⟨b, by simp [q, h1], h2⟩
end TE
section TF
variable {d w k pc : Nat} {A : vq_A} {r : List Value} {vh : vm_H} {Post : vq_Q}
theorem w_norm {a : Int} (g : ∀ q : Int, -2147483648 ≤ q ∧ q < 2147483648 → vm_Wp d w k pc A (.int (vz q) :: r) vh Post) : vm_Wp d w k pc A (.int (vz a) :: r) vh Post := by
  obtain ⟨q, e, h⟩ := vz_ex (vz a)
  rw [e]
  exact g q h
end TF

