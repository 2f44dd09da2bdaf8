/-! One heap, one reading: the reference's cells tell what they hold. Sorting, told for whatever lies there. -/
theorem rp_imp {ι : Type} {d w d2 w2 j : Nat} {as : List Value} {vh : vm_H} {P : Option Value → vm_H → Prop} {C : ι → Prop} {Q : ι → Option Value → vm_H → Prop} (h : vm_Rp d w j as vh P) (h2 : ∀ x, C x → vm_Rp d2 w2 j as vh (Q x)) : vm_Rp d w j as vh (fun r v => P r v ∧ ∀ x, C x → Q x r v) := by
  obtain ⟨frA, vA, rA, g1, g2, g3⟩ := h
  refine ⟨frA, vA, rA, g1, g2, g3, fun x hx => ?_⟩
  obtain ⟨frB, vB, rB, q1, q2, q3⟩ := h2 x hx
  obtain ⟨e1, e2⟩ := go_det g1 rA g2 d2 w2 _ rB q1 q2
  have e1 : frA = frB := e1
  have e2 : vA = vB := e2
  subst e1 e2
  rw [g2] at q2
  cases q2
  exact q3
theorem and12 {p q r : Prop} (h : p ∧ q ∧ r) : p ∧ q := ⟨h.1, h.2.1⟩
section UN
variable {sc sc1 : Nat → Int} {ai ai1 : Nat → Nat → Int} {al al1 : Nat → Nat → Int64} {az az1 : Nat → Nat → Int32} {v0 v2 vh : vm_H} {a n : Nat}
theorem un_l (h : tm sc ai al az v0 vh) (g : tm sc1 ai1 al1 az1 v2 vh) (ht : mk_t a = (1, n)) : al a = al1 a := by
  have e := (tm_l h ht).symm.trans (tm_l g ht)
  injection e with e
  injection e with e
  injection e with _ e
  injection e with _ e
  injection e with e
  injection e
theorem un_z (h : tm sc ai al az v0 vh) (g : tm sc1 ai1 al1 az1 v2 vh) (ht : mk_t a = (2, n)) : az a = az1 a := by
  have e := (tm_z h ht).symm.trans (tm_z g ht)
  injection e with e
  injection e with e
  injection e with _ e
  injection e with _ e
  injection e
theorem un_i (h : tm sc ai al az v0 vh) (g : tm sc1 ai1 al1 az1 v2 vh) (ht : mk_t a = (0, n)) : ai a = ai1 a := by
  have e := (tm_i h ht).symm.trans (tm_i g ht)
  injection e with e
  injection e with e
  injection e with _ e
  injection e with _ e
  injection e with e
  funext j
  have e2 := congrFun e j
  exact (vz_inj (tm_r h a j) (tm_r g a j)).mp e2
theorem un_f (h : tm sc ai al az v0 vh) (g : tm sc1 ai1 al1 az1 v2 vh) : mf sc = mf sc1 := by
  have e := h.2.2.2.1.symm.trans g.2.2.2.1
  injection e with e
  injection e with e
  injection e
theorem un_s (h : tm sc ai al az v0 vh) (g : tm sc1 ai1 al1 az1 v2 vh) {j : Nat} (hj : ∀ s : Nat → Int, (mf s)[j]? = some (.int (vz (s j)))) : sc j = sc1 j := by
  have e := congrArg (fun l => l[j]?) (un_f h g)
  have e : (mf sc)[j]? = (mf sc1)[j]? := e
  rw [hj, hj] at e
  injection e with e
  injection e with e
  exact (vz_inj (tm_s h j) (tm_s g j)).mp e
theorem gi_u (h : tm sc ai al az v0 vh) (g : tm sc1 ai1 al1 az1 v2 vh) (hg : gi sc1 ai1 al1 az1) : gi sc ai al az := by
  have e1 := un_s h g (j := 1) (fun _ => rfl)
  have e4 := un_s h g (j := 4) (fun _ => rfl)
  have e38 := un_s h g (j := 38) (fun _ => rfl)
  have c2 := un_i h g (a := 242) (n := 72) rfl
  have c3 := un_l h g (a := 243) (n := 4320) rfl
  have c9 := un_z h g (a := 259) (n := 16384) rfl
  unfold gi gj gd at hg ⊢
  rw [e1, e4, e38, c2, c3, c9]
  exact hg
theorem ri_u (h : tm sc ai al az v0 vh) (g : tm sc1 ai1 al1 az1 v2 vh) (hg : ri2 sc1 ai1 al1 az1) : ri2 sc ai al az := by
  have e1 := un_s h g (j := 1) (fun _ => rfl)
  have e11 := un_s h g (j := 11) (fun _ => rfl)
  have e18 := un_s h g (j := 18) (fun _ => rfl)
  have e19 := un_s h g (j := 19) (fun _ => rfl)
  have c0 := un_i h g (a := 240) (n := 8) rfl
  have c2 := un_i h g (a := 242) (n := 72) rfl
  have c4 := un_l h g (a := 244) (n := 4320) rfl
  have c9 := un_z h g (a := 239) (n := 8) rfl
  have c6 := un_i h g (a := 246) (n := 256) rfl
  have c7 := un_i h g (a := 247) (n := 256) rfl
  have c8 := un_i h g (a := 248) (n := 256) rfl
  unfold ri2 sj mb mpI pk at hg ⊢
  rw [e1, e11, e18, e19, c0, c2, c4, c9, c6, c7, c8]
  exact hg
end UN
def sorc (V : Nat → Nat) (nv : Nat) (ai : Nat → Nat → Int) (al al1 : Nat → Nat → Int64) (i : Nat) : Prop := ∀ l, qL V nv ai al i l → (∀ x, x ∈ l → x.1 < 256 ^ nv ∧ x.1 < 2 ^ 63) → ∃ l1, l1.Perm l ∧ l1.Pairwise (fun x y => y.1 ≤ x.1) ∧ qL V nv ai al1 i l1
def sorS (sc : Nat → Int) (ai : Nat → Nat → Int) (al al1 : Nat → Nat → Int64) (i : Nat) : Prop := ∀ nv : Nat, sc 1 = (nv : Int) → pmV (vR ai) nv → sorc (vR ai) nv ai al al1 i
section SO
variable {V : Nat → Nat} {nv i : Nat} {sc : Nat → Int} {ai : Nat → Nat → Int} {al al1 al2 : Nat → Nat → Int64} {az : Nat → Nat → Int32} {v0 vh : vm_H}
theorem sorS_cg (h : sorS sc ai al al1 i) (e3 : ∀ t, t < 60 → al2 243 (60 * i + t) = al1 243 (60 * i + t) ∧ al2 244 (60 * i + t) = al1 244 (60 * i + t)) (h60 : ai 242 i ≤ 60) : sorS sc ai al al2 i := fun nv h1 h2 l h3 h4 => by
  obtain ⟨l1, p1, p2, p3⟩ := h nv h1 h2 l h3 h4
  exact ⟨l1, p1, p2, qL_cg p3 rfl fun t ht => ⟨(e3 t (by omega)).2, (e3 t (by omega)).1⟩⟩
theorem r80c (hM : tm sc ai al az v0 vh) (hK : tmok ai) {i1 : Int} (hi_1 : 0 ≤ i1 ∧ i1 < 72) (hn : 0 ≤ sc 1 ∧ sc 1 ≤ 8) : vm_Rp 2 47 80 [.ref 238, .int (vz i1)] vh (fun r v1 => (∃ al1 : Nat → Nat → Int64, (sfr al al1 (60 * i1).toNat ∧ slp ai al al1 (i1).toNat ∧ sorS sc ai al al1 (i1).toNat) ∧ tm sc ai al1 az v0 v1) ∧ r = none) := by
  have h1 := c80x hM hK hi_1 hn
  refine (rp_imp (ι := Nat × Po) (C := fun x => sc 1 = (x.1 : Int) ∧ pmV (vR ai) x.1 ∧ qL (vR ai) x.1 ai al (i1).toNat x.2 ∧ ∀ y, y ∈ x.2 → y.1 < 256 ^ x.1 ∧ y.1 < 2 ^ 63) h1 (fun x hx => r80 hM hK hi_1 hx.1 hx.2.1 hx.2.2.1 hx.2.2.2)).imp fun r v1 hq => ?_
  obtain ⟨⟨⟨al1, g1, g2, g3⟩, rfl⟩, g4⟩ := hq
  have e0 : (60 * i1).toNat = 60 * (i1).toNat := by omega
  refine ⟨⟨al1, ⟨g1, by unfold slp; rw [← e0]; exact g2, fun nv h2 h3 l h4 h5 => ?_⟩, g3⟩, rfl⟩
  obtain ⟨⟨al2, ⟨_, l1, q1, q2, q3⟩, q4⟩, _⟩ := g4 (nv, l) ⟨h2, h3, h4, h5⟩
  have c3 := un_l g3 q4 (a := 243) (n := 4320) rfl
  have c4 := un_l g3 q4 (a := 244) (n := 4320) rfl
  exact ⟨l1, q1, q2, qL_cg q3 rfl fun t _ => ⟨by rw [c4], by rw [c3]⟩⟩
theorem k80s (hM : tm sc ai al az v0 vh) (hK : tmok ai) (hI : gi sc ai al az) {i1 : Int} (hi_1 : 0 ≤ i1 ∧ i1 < 72) : vm_Rp 2 47 80 [.ref 238, .int (vz i1)] vh (fun r v1 => (∃ (sc1 : Nat → Int) (ai1 : Nat → Nat → Int) (al1 : Nat → Nat → Int64) (az1 : Nat → Nat → Int32), tm sc1 ai1 al1 az1 v0 v1 ∧ tmok ai1 ∧ gi sc1 ai1 al1 az1 ∧ fr [] [] (i1).toNat (i1).toNat sc ai al az sc1 ai1 al1 az1 ∧ (ai1 = ai ∧ slp ai al al1 (i1).toNat ∧ sorS sc ai al al1 (i1).toNat)) ∧ r = none) := by
  refine (rp_and (k80x hM hK hI hi_1) (r80c hM hK hi_1 hI.1.1.1)).imp fun r v1 hq => ?_
  obtain ⟨⟨⟨sc1, ai1, al1, az1, h1, h2, h3, h4, h5, h6⟩, _⟩, ⟨al2, ⟨_, _, g3⟩, g4⟩, rfl⟩ := hq
  have c3 := un_l h1 g4 (a := 243) (n := 4320) rfl
  have c4 := un_l h1 g4 (a := 244) (n := 4320) rfl
  exact ⟨⟨sc1, ai1, al1, az1, h1, h2, h3, h4, h5, h6, sorS_cg g3 (fun t _ => ⟨by rw [c3], by rw [c4]⟩) (hK.1 _).2⟩, rfl⟩
end SO
