section RT
variable {ai ai1 : Nat → Nat → Int} {al al1 al2 al3 : Nat → Nat → Int64} {s t y n x8 x9 : Int} {k c v y10 : Int64}
/-- why nothing is added -/
theorem bad0 {C : Nat → Int64} (hx : (x9 = 1 ∧ x8 < n) ∨ (x9 = 0 ∧ x8 = n)) (hr : (x9 = 1 ∧ y10 = C x8.toNat) ∨ x9 = 0) (hz : x9 = 0 → y10.toInt = 0) (hs : vr v → (y10 + v).toInt = y10.toInt + v.toInt) (hb : ¬ vr v ∨ (vr v ∧ ¬ sr (y10 + v)) ∨ (x9 = 0 ∧ v.toInt ≠ 0 ∧ x8 = 60)) : ¬ vr v ∨ (x8 < n ∧ ¬ sr (C x8.toNat + v)) ∨ (¬ x8 < n ∧ (¬ sr v ∨ (v.toInt ≠ 0 ∧ n = 60))) := by
  rcases hb with h | ⟨h, h2⟩ | ⟨h, h2, h3⟩
  · exact Or.inl h
  · rcases hr with ⟨e9, e⟩ | e9
    · exact Or.inr (Or.inl ⟨by omega, by rw [← e]; exact h2⟩)
    · refine Or.inr (Or.inr ⟨by omega, Or.inl fun q => h2 ?_⟩)
      have h3 := hs h
      have h4 := hz e9
      unfold sr at q ⊢
      omega
  · exact Or.inr (Or.inr ⟨by omega, Or.inr ⟨h2, by omega⟩⟩)
theorem fin_p {m : Int} (h0 : 0 ≤ s) (hsl : slp ai1 al2 al3 s.toNat) (hc : ai1 242 s.toNat = m) : (ls (pr_ al3 (60 * s).toNat) m.toNat).Perm (ls (pr_ al2 (60 * s).toNat) m.toNat) := by
  have e0 : (60 * s).toNat = 60 * s.toNat := by omega
  unfold slp at hsl
  rw [hc] at hsl
  rw [e0]
  exact hsl
theorem put_f (hs : 0 ≤ s ∧ y = 60 * s) (hn : 0 ≤ n) (hx : x8 = n) (h1 : al1 = u2 al 243 (y + x8).toNat c) (h2 : al2 = u2 al1 244 (y + x8).toNat k) (h3 : (ls (pr_ al3 (60 * s).toNat) (n + 1).toNat).Perm (ls (pr_ al2 (60 * s).toNat) (n + 1).toNat)) : (ls (pr_ al3 (60 * s).toNat) (n + 1).toNat).Perm ((k, c) :: ls (pr_ al (60 * s).toNat) n.toNat) := by
  rw [hx, show n = ((n.toNat : Nat) : Int) by omega] at h1 h2
  have h4 := put_e hs h1 h2
  rw [show (n + 1).toNat = n.toNat + 1 by omega] at h3 ⊢
  exact h3.trans h4
theorem shf_f (hs : 0 ≤ s) (hn : 0 ≤ t ∧ t < n) (h : shf al al2 (60 * s).toNat t x8) (hx : x8 + 1 = n) (hk : al 244 ((60 * s).toNat + t.toNat) = k) (h3 : (ls (pr_ al3 (60 * s).toNat) (n - 1).toNat).Perm (ls (pr_ al2 (60 * s).toNat) (n - 1).toNat)) : (ls (pr_ al (60 * s).toNat) n.toNat).Perm ((k, al 243 ((60 * s).toNat + t.toNat)) :: ls (pr_ al3 (60 * s).toNat) (n - 1).toNat) := by
  have h4 := shf_e (n := n.toNat) h (by omega) (by omega)
  have e : pr_ al (60 * s).toNat t.toNat = (k, al 243 ((60 * s).toNat + t.toNat)) := by
    unfold pr_
    rw [hk]
  rw [e, show n.toNat - 1 = (n - 1).toNat by omega] at h4
  exact h4.trans (List.Perm.cons _ h3.symm)
theorem upd_f (hs : 0 ≤ s ∧ y = 60 * s) (ht : 0 ≤ t ∧ t < n) (hk : al 244 ((60 * s).toNat + t.toNat) = k) (h1 : al1 = u2 al 243 (y + t).toNat c) (h3 : (ls (pr_ al3 (60 * s).toNat) n.toNat).Perm (ls (pr_ al1 (60 * s).toNat) n.toNat)) : ∃ R : List (Int64 × Int64), (ls (pr_ al3 (60 * s).toNat) n.toNat).Perm ((k, c) :: R) ∧ (ls (pr_ al (60 * s).toNat) n.toNat).Perm ((k, al 243 ((60 * s).toNat + t.toNat)) :: R) := by
  obtain ⟨R, p1, p2⟩ := upd_e (n := n.toNat) hs (by omega) h1
  rw [hk] at p1
  refine ⟨R, h3.trans p1, ?_⟩
  have e : pr_ al (60 * s).toNat t.toNat = (k, al 243 ((60 * s).toNat + t.toNat)) := by
    unfold pr_
    rw [hk]
  rw [e] at p2
  exact p2
end RT
