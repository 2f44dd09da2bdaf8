/-! The class's calls that change the polynomials or the places, exactly. -/
def cP (vh : vm_H) (i : Nat) (n : Int) (K F : Nat → Int64) : Prop := ((0 ≤ n ∧ n ≤ 60) ∧ ∀ t : Nat, (t : Int) < n → gl (F t)) ∧ vm_at vh (7 + 3 * i) = some (.inr (1, [.ref (7 + 3 * i + 1), .ref (7 + 3 * i + 2), .int (vz n)])) ∧ vm_at vh (7 + 3 * i + 1) = some (.inl (1, 60, .inr (.inl K))) ∧ vm_at vh (7 + 3 * i + 2) = some (.inl (1, 60, .inr (.inl F)))
/-- what is of no kind stays -/
def kp (vh v1 : vm_H) : Prop := ∀ b, ty b = 0 → vm_at v1 b = vm_at vh b
section CX
variable {θ θ1 : tc_S} {vh v1 v2 : vm_H} {n n1 nv : Int} {K F K1 F1 : Nat → Int64} {V : Nat → Int} {i : Nat}
theorem tc_rf5 {v0 : (Bool × Bool) × vm_H} (h : tc θ v0 vh) : tc θ ((false, false), vh) vh := ⟨h.1, rfl, fun a => ⟨fun _ => rfl, (h.2.2 a).2⟩⟩
theorem tc_fu {v0 : (Bool × Bool) × vm_H} (h : tc θ v0 vh) : tc θ ((false, true), vh) vh := ⟨h.1, rfl, fun a => ⟨fun _ => rfl, (h.2.2 a).2⟩⟩
theorem tc_keep (h : tc θ1 ((false, true), vh) v1) : ∀ b, 5 ≤ b ∧ b < 55 → vm_at v1 b = vm_at vh b := fun b hb => (h.2.2 b).1 (Or.inr (Or.inr ⟨rfl, hb.1, hb.2⟩))
theorem cP_keep (h : cP vh i n K F) (hi : i < 16) (hk : ∀ b, 7 ≤ b ∧ b < 55 → vm_at v1 b = vm_at vh b) : cP v1 i n K F := ⟨h.1, (hk _ (by omega)).trans h.2.1, (hk _ (by omega)).trans h.2.2.1, (hk _ (by omega)).trans h.2.2.2⟩
theorem hk7 (h : ∀ b, 5 ≤ b ∧ b < 55 → vm_at v1 b = vm_at vh b) : ∀ b, 7 ≤ b ∧ b < 55 → vm_at v1 b = vm_at vh b := fun b hb => h b (by omega)
theorem cP_pm (h : cP vh i n K F) : pm (7 + 3 * i) n K F vh vh := ⟨rfl, fun _ _ _ _ => rfl, h.2.1, h.2.2.1, h.2.2.2⟩
theorem kp_t {v0 v2 : vm_H} (h : kp v0 vh) (h2 : kp vh v2) : kp v0 v2 := fun b hb => (h2 b hb).trans (h b hb)
theorem kp_c {f : Bool × Bool} (h : tc θ1 (f, vh) v1) : kp vh v1 := fun b hb => (h.2.2 b).1 (Or.inl hb)
theorem kp_pm (hi : i < 16) (hp : pm (7 + 3 * i) n1 K1 F1 vh v1) : kp vh v1 := fun b hb => by
  have t1 := ty_pi i hi
  have t2 := ty_p t1
  refine hp.2.1 b (fun e => ?_) (fun e => ?_) (fun e => ?_)
  · rw [e, t1] at hb; cases hb
  · rw [e, t2.1] at hb; cases hb
  · rw [e, t2.2] at hb; cases hb
theorem kp_vd (hv : vd n1 V vh v1) : kp vh v1 := fun b hb => hv.2.1 b (fun e => by subst e; cases hb) (fun e => by subst e; cases hb) (fun e => by subst e; cases hb)
/-- another polynomial stands there -/
theorem tc_pm (h : tc θ ((false, false), vh) vh) (hi : i < 16) (hp : pm (7 + 3 * i) n1 K1 F1 vh v1) (hn : 0 ≤ n1 ∧ n1 ≤ 60) : tc θ ((false, false), v1) v1 := by
  have t1 := ty_pi i hi
  have t2 := ty_p t1
  refine ⟨h.1, rfl, fun a => ⟨fun _ => rfl, ?_⟩⟩
  by_cases q1 : a = 7 + 3 * i
  · rw [q1, t1]; exact ⟨n1, hn, hp.2.2.1⟩
  · by_cases q2 : a = 7 + 3 * i + 1
    · rw [q2, t2.1]; exact ⟨K1, hp.2.2.2.1⟩
    · by_cases q3 : a = 7 + 3 * i + 2
      · rw [q3, t2.2]; exact ⟨F1, hp.2.2.2.2⟩
      · rw [hp.2.1 a q1 q2 q3]; exact (h.2.2 a).2
/-- other places -/
theorem tc_vd (h : tc θ ((false, false), vh) vh) (hv : vd n1 V vh v1) (hn : 0 ≤ n1 ∧ n1 ≤ 8) (hr : ∀ j, 0 ≤ V j ∧ V j < 8) : tc (n1, θ.2) ((false, false), v1) v1 := by
  obtain ⟨f, hf⟩ := hv.2.2.2.1
  refine ⟨⟨hn, h.1.2⟩, rfl, fun a => ⟨fun _ => rfl, ?_⟩⟩
  by_cases q1 : a = 2
  · subst q1; exact hv.2.2.1
  · by_cases q2 : a = 3
    · subst q2; exact ⟨f, hf⟩
    · by_cases q3 : a = 5
      · subst q3; exact ⟨V, hr, hv.2.2.2.2⟩
      · rw [hv.2.1 a q1 q2 q3]
        exact tq_cnt (fun e => q1 (ty_u4 e)) (h.2.2 a).2
end CX
