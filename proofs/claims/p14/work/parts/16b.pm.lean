/-! One polynomial of the class, exactly. -/
def pm (a : Nat) (n : Int) (K F : Nat → Int64) (v0 vh : vm_H) : Prop := vh.length = v0.length ∧ (∀ b, b ≠ a → b ≠ a + 1 → b ≠ a + 2 → vm_at vh b = vm_at v0 b) ∧ vm_at vh a = some (.inr (1, [.ref (a + 1), .ref (a + 2), .int (vz n)])) ∧ vm_at vh (a + 1) = some (.inl (1, 60, .inr (.inl K))) ∧ vm_at vh (a + 2) = some (.inl (1, 60, .inr (.inl F)))
section PM
variable {a : Nat} {n m : Int} {K F G : Nat → Int64} {v0 vh v1 : vm_H}
theorem pm_n (h : pm a n K F v0 vh) (hb : vm_but a vh v1) (hc : vm_at v1 a = some (.inr (1, [.ref (a + 1), .ref (a + 2), .int (vz m)]))) : pm a m K F v0 v1 := ⟨hb.1.trans h.1, fun b h1 h2 h3 => (hb.2 b h1).trans (h.2.1 b h1 h2 h3), hc, (hb.2 _ (by omega)).trans h.2.2.2.1, (hb.2 _ (by omega)).trans h.2.2.2.2⟩
theorem pm_K (h : pm a n K F v0 vh) (hb : vm_but (a + 1) vh v1) (hc : vm_at v1 (a + 1) = some (.inl (1, 60, .inr (.inl G)))) : pm a n G F v0 v1 := ⟨hb.1.trans h.1, fun b h1 h2 h3 => (hb.2 b h2).trans (h.2.1 b h1 h2 h3), (hb.2 _ (by omega)).trans h.2.2.1, hc, (hb.2 _ (by omega)).trans h.2.2.2.2⟩
theorem pm_F (h : pm a n K F v0 vh) (hb : vm_but (a + 2) vh v1) (hc : vm_at v1 (a + 2) = some (.inl (1, 60, .inr (.inl G)))) : pm a n K G v0 v1 := ⟨hb.1.trans h.1, fun b h1 h2 h3 => (hb.2 b h3).trans (h.2.1 b h1 h2 h3), (hb.2 _ (by omega)).trans h.2.2.1, (hb.2 _ (by omega)).trans h.2.2.2.1, hc⟩
end PM
theorem up_s {f : Nat → Int64} {i : Nat} {v : Int64} : vp_updL f i v i = v := by simp [vp_updL]
theorem up_o {f : Nat → Int64} {i j : Nat} {v : Int64} (h : j ≠ i) : vp_updL f i v j = f j := by simp [vp_updL, h]
