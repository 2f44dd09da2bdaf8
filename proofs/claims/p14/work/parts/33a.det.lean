/-! The numbered machine comes to one end only: two contracts of one call hold together. -/
theorem go_inv {d w k : Nat} {fr : vm_F} {vh : vm_H} {o : vm_F × vm_H × Nat × Nat} (h : vm_Go d w k fr vh o) : o = (fr, vh, 0, 0) ∨ (∃ fr1 vh1 a c n s, vm_st k fr vh = some (fr1, vh1, a, c) ∧ vm_Go d w k fr1 vh1 (o.1, o.2.1, n, s)) ∨ (∃ j as fr1 d1 w1 frR vh1 n1 s1 r n2 s2, vm_cl k fr vh = some (j, as, fr1) ∧ vm_Go d1 w1 j (0, lv_args 0 as, []) vh (frR, vh1, n1, s1) ∧ vm_rt j frR = some r ∧ vm_Go d w k (fr1.1, fr1.2.1, r.toList ++ fr1.2.2) vh1 (o.1, o.2.1, n2, s2)) ∨ (∃ fr1 vh1, vm_nt k fr vh = some (fr1, vh1) ∧ vm_Go d w k fr1 vh1 o) := by
  refine (h (fun d w k fr vh o => vm_Go d w k fr vh o ∧ (o = (fr, vh, 0, 0) ∨ (∃ fr1 vh1 a c n s, vm_st k fr vh = some (fr1, vh1, a, c) ∧ vm_Go d w k fr1 vh1 (o.1, o.2.1, n, s)) ∨ (∃ j as fr1 d1 w1 frR vh1 n1 s1 r n2 s2, vm_cl k fr vh = some (j, as, fr1) ∧ vm_Go d1 w1 j (0, lv_args 0 as, []) vh (frR, vh1, n1, s1) ∧ vm_rt j frR = some r ∧ vm_Go d w k (fr1.1, fr1.2.1, r.toList ++ fr1.2.2) vh1 (o.1, o.2.1, n2, s2)) ∨ (∃ fr1 vh1, vm_nt k fr vh = some (fr1, vh1) ∧ vm_Go d w k fr1 vh1 o))) ⟨?_, ?_, ?_, ?_⟩).2
  · intro d w k fr vh
    exact ⟨vm_Go.rf, Or.inl rfl⟩
  · intro d w k fr vh fr1 vh1 a c fr2 vh2 nc ns h1 h2
    exact ⟨vm_Go.st (o := (fr2, vh2, nc, ns)) h1 h2.1, Or.inr (Or.inl ⟨fr1, vh1, a, c, nc, ns, h1, h2.1⟩)⟩
  · intro d w k fr vh j as fr1 d1 w1 frR vh1 n1 s1 r fr2 vh2 n2 s2 h1 h2 h3 h4 h5 h6
    exact ⟨vm_Go.cl h1 h2 h3 h4.1 h5 h6.1, Or.inr (Or.inr (Or.inl ⟨j, as, fr1, d1, w1, frR, vh1, n1, s1, r, n2, s2, h1, h4.1, h5, h6.1⟩))⟩
  · intro d w k fr vh fr1 vh1 o h1 h2 h3 h4
    exact ⟨vm_Go.nt h1 h2 h3 h4.1, Or.inr (Or.inr (Or.inr ⟨fr1, vh1, h1, h4.1⟩))⟩
section EX
variable {k : Nat} {fr : vm_F} {vh : vm_H}
theorem ex_r {r : Option Value} (h : vm_rt k fr = some r) : vm_st k fr vh = none ∧ vm_cl k fr vh = none ∧ vm_nt k fr vh = none := by
  unfold vm_rt at h
  unfold vm_st vm_cl vm_nt
  split at h
  next he => rw [he]; exact ⟨rfl, rfl, rfl⟩
  next he => rw [he]; exact ⟨rfl, rfl, rfl⟩
  next he => rw [he]; exact ⟨rfl, rfl, rfl⟩
  next he => rw [he]; exact ⟨rfl, rfl, rfl⟩
  next => cases h
theorem ex_c {q : Nat × List Value × vm_F} (h : vm_cl k fr vh = some q) : vm_st k fr vh = none ∧ vm_nt k fr vh = none := by
  unfold vm_cl at h
  unfold vm_st vm_nt
  split at h
  next he => rw [he]; exact ⟨rfl, rfl⟩
  next he => rw [he]; exact ⟨rfl, rfl⟩
  next he => rw [he]; exact ⟨rfl, rfl⟩
  next he => rw [he]; exact ⟨rfl, rfl⟩
  next he => rw [he]; exact ⟨rfl, rfl⟩
  next he => rw [he]; exact ⟨rfl, rfl⟩
  next => cases h
theorem ex_n {q : vm_F × vm_H} (h : vm_nt k fr vh = some q) : vm_st k fr vh = none := by
  unfold vm_nt at h
  unfold vm_st
  split at h
  next he => rw [he]; rfl
  next he => rw [he]; rfl
  next he => rw [he]; rfl
  next he => rw [he]; rfl
  next he => rw [he]; rfl
  next => cases h
end EX
theorem sn_ne {α : Type} {x : Option α} {y : α} {p : Prop} (h : x = some y) (h2 : x = none) : p := by rw [h] at h2; cases h2
theorem go_det {d w k : Nat} {fr : vm_F} {vh : vm_H} {o : vm_F × vm_H × Nat × Nat} (h : vm_Go d w k fr vh o) : ∀ rA, vm_rt k o.1 = some rA → ∀ d' w' oB rB, vm_Go d' w' k fr vh oB → vm_rt k oB.1 = some rB → o.1 = oB.1 ∧ o.2.1 = oB.2.1 := by
  refine h (fun d w k fr vh o => ∀ rA, vm_rt k o.1 = some rA → ∀ d' w' oB rB, vm_Go d' w' k fr vh oB → vm_rt k oB.1 = some rB → o.1 = oB.1 ∧ o.2.1 = oB.2.1) ⟨?_, ?_, ?_, ?_⟩
  · intro d w k fr vh rA hA d' w' oB rB hB hrB
    have hx := ex_r (vh := vh) hA
    rcases go_inv hB with e | ⟨fr1, vh1, a, c, n, s, e, _⟩ | ⟨j, as, fr1, d1, w1, frR, vh1, n1, s1, r, n2, s2, e, _⟩ | ⟨fr1, vh1, e, _⟩
    · rw [e]; exact ⟨rfl, rfl⟩
    · exact sn_ne e hx.1
    · exact sn_ne e hx.2.1
    · exact sn_ne e hx.2.2
  · intro d w k fr vh fr1 vh1 a c fr2 vh2 nc ns h1 h2 rA hA d' w' oB rB hB hrB
    rcases go_inv hB with e | ⟨fr1', vh1', a', c', n, s, e, h3⟩ | ⟨j, as, fr1', d1, w1, frR, vh1', n1, s1, r, n2, s2, e, _⟩ | ⟨fr1', vh1', e, _⟩
    · rw [e] at hrB
      exact sn_ne h1 (ex_r hrB).1
    · rw [h1] at e
      cases e
      exact h2 rA hA d' w' (oB.1, oB.2.1, n, s) rB h3 hrB
    · exact sn_ne h1 (ex_c e).1
    · exact sn_ne h1 (ex_n e)
  · intro d w k fr vh j as fr1 d1 w1 frR vh1 n1 s1 r fr2 vh2 n2 s2 h1 _ _ h4 h5 h6 rA hA d' w' oB rB hB hrB
    rcases go_inv hB with e | ⟨fr1', vh1', a', c', n, s, e, h3⟩ | ⟨j', as', fr1', d1', w1', frR', vh1', n1', s1', r', n2', s2', e, g1, g2, g3⟩ | ⟨fr1', vh1', e, _⟩
    · rw [e] at hrB
      exact sn_ne h1 (ex_r hrB).2.1
    · exact sn_ne e (ex_c h1).1
    · rw [h1] at e
      cases e
      obtain ⟨q1, q2⟩ := h4 r h5 d1' w1' _ r' g1 g2
      have q1 : frR = frR' := q1
      have q2 : vh1 = vh1' := q2
      subst q1 q2
      rw [h5] at g2
      cases g2
      exact h6 rA hA d' w' (oB.1, oB.2.1, n2', s2') rB g3 hrB
    · exact sn_ne e (ex_c h1).2
  · intro d w k fr vh fr1 vh1 o h1 _ _ h4 rA hA d' w' oB rB hB hrB
    rcases go_inv hB with e | ⟨fr1', vh1', a', c', n, s, e, h3⟩ | ⟨j', as', fr1', d1', w1', frR', vh1', n1', s1', r', n2', s2', e, g1, g2, g3⟩ | ⟨fr1', vh1', e, g⟩
    · rw [e] at hrB
      exact sn_ne h1 (ex_r hrB).2.2
    · exact sn_ne e (ex_n h1)
    · exact sn_ne h1 (ex_c e).2
    · rw [h1] at e
      cases e
      exact h4 rA hA d' w' oB rB g hrB
theorem rp_and {d w d2 w2 j : Nat} {as : List Value} {vh : vm_H} {P Q : Option Value → vm_H → Prop} (h : vm_Rp d w j as vh P) (h2 : vm_Rp d2 w2 j as vh Q) : vm_Rp d w j as vh (fun r v => P r v ∧ Q r v) := by
  obtain ⟨frA, vA, rA, g1, g2, g3⟩ := h
  obtain ⟨frB, vB, rB, q1, q2, q3⟩ := h2
  obtain ⟨e1, e2⟩ := go_det g1 rA g2 d2 w2 _ rB q1 q2
  have e1 : frA = frB := e1
  have e2 : vA = vB := e2
  subst e1 e2
  rw [g2] at q2
  cases q2
  exact ⟨frA, vA, rA, g1, g2, g3, q3⟩
theorem rp_mono {d w j : Nat} {as : List Value} {vh : vm_H} {P Q : Option Value → vm_H → Prop} (h : vm_Rp d w j as vh P) (hq : ∀ r v, P r v → Q r v) : vm_Rp d w j as vh Q := by
  obtain ⟨frA, vA, rA, g1, g2, g3⟩ := h
  exact ⟨frA, vA, rA, g1, g2, hq _ _ g3⟩
