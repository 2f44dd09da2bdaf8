/-- the first x are changed by g, the others not yet -/
def cvd (K K1 : Nat → Int64) (g : Int64 → Int64) (x : Int) : Prop := (∀ j : Nat, (j : Int) < x → K1 j = g (K j)) ∧ ∀ j : Nat, x ≤ (j : Int) → K1 j = K j
theorem cvd_0 {K : Nat → Int64} {g : Int64 → Int64} : cvd K K g 0 := ⟨fun j hj => by omega, fun _ _ => rfl⟩
theorem cvd_s {K K1 K2 : Nat → Int64} {g : Int64 → Int64} {x : Int} {v : Int64} (h : cvd K K1 g x) (hx : 0 ≤ x) (hv : v = g (K1 x.toNat)) (hd : K2 = vp_updL K1 x.toNat v) : cvd K K2 g (x + 1) := by
  refine ⟨fun j hj => ?_, fun j hj => ?_⟩
  · by_cases q : j = x.toNat
    · rw [hd, q, up_s, hv, h.2 _ (by omega)]
    · rw [hd, up_o q]; exact h.1 j (by omega)
  · rw [hd, up_o (by omega)]; exact h.2 j (by omega)
