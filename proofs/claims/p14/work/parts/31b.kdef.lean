def kn (Z : Nat → Nat → Int) : Prop := ∀ a, ty a = 1 → 0 ≤ Z a 0 ∧ Z a 0 ≤ 60
theorem kn_u {Z Z1 : Nat → Nat → Int} {a j : Nat} {q : Int} (h : kn Z) (hd : Z1 = u2 Z a j q) (hq : ty a = 1 → 0 ≤ q ∧ q ≤ 60) : kn Z1 := fun b hb => by
  rw [hd]
  unfold u2
  split
  next e => exact hq (by rw [← e.1]; exact hb)
  next => exact h b hb
theorem ty_b0 {sk : Nat} (h : sk = 0 ∨ sk = 2) : ty (220 + sk) = 14 := by rcases h with rfl | rfl <;> rfl
theorem ty_b1 {sk : Nat} (h : sk = 0 ∨ sk = 2) : ty (221 + sk) = 14 := by rcases h with rfl | rfl <;> rfl
theorem ty_b2 {sk : Nat} (h : sk = 0 ∨ sk = 2) : ty (222 - sk) = 14 := by rcases h with rfl | rfl <;> rfl
theorem ty_b3 {sk : Nat} (h : sk = 0 ∨ sk = 2) : ty (223 - sk) = 14 := by rcases h with rfl | rfl <;> rfl
/-- the degree at a place -/
def dgk (K : Nat → Int64) (p : Int) : Nat → Int
  | 0 => 0
  | t + 1 => if dgk K p t < pw (K t) p then pw (K t) p else dgk K p t
theorem dgk_bd (K : Nat → Int64) (p : Int) : ∀ t, 0 ≤ dgk K p t ∧ dgk K p t ≤ 255 := by
  intro t
  induction t with
  | zero => exact ⟨by show (0 : Int) ≤ 0; decide, by show (0 : Int) ≤ 255; decide⟩
  | succ t ih =>
    simp only [dgk]
    split
    · exact pw_bd _ _
    · exact ih
theorem dgk_s {K : Nat → Int64} {p t x y : Int} (h1 : 0 ≤ t) (hx : x = dgk K p t.toNat) (hy : (y = x ∨ y = pw (K t.toNat) p) ∧ x ≤ y ∧ pw (K t.toNat) p ≤ y) : y = dgk K p (t + 1).toNat := by
  rw [show (t + 1).toNat = t.toNat + 1 by omega]
  simp only [dgk]
  rw [← hx]
  split <;> omega
/-- the place of the main variable -/
def mpk (fr : Nat → Int32) (od : Nat → Int) (dg : Int → Int) : Nat → Int
  | 0 => -1
  | i + 1 => if fr (od i).toNat = 0 ∧ 0 < dg (i : Int) then (i : Int) else mpk fr od dg i
theorem mpk_hit {fr : Nat → Int32} {od : Nat → Int} {dg : Int → Int} {x q : Int} (h0 : 0 ≤ x) (hq : fr (od x.toNat).toNat = vz q) (q0 : q = 0) (hd : 0 < dg x) : mpk fr od dg (x + 1).toNat = x := by
  rw [show (x + 1).toNat = x.toNat + 1 by omega]
  simp only [mpk]
  rw [show ((x.toNat : Nat) : Int) = x by omega, if_pos ⟨by rw [hq, q0]; rfl, hd⟩]
theorem mpk_miss {fr : Nat → Int32} {od : Nat → Int} {dg : Int → Int} {x y q : Int} (h0 : 0 ≤ x) (hy : y + 1 = x) (hq : fr (od x.toNat).toNat = vz q) (hr : -2147483648 ≤ q ∧ q < 2147483648) (h : q ≠ 0 ∨ dg x ≤ 0) : mpk fr od dg (x + 1).toNat = mpk fr od dg (y + 1).toNat := by
  rw [show (x + 1).toNat = x.toNat + 1 by omega, hy]
  simp only [mpk]
  rw [show ((x.toNat : Nat) : Int) = x by omega, if_neg]
  rintro ⟨h1, h2⟩
  rcases h with h | h
  · rw [hq] at h1
    exact h ((vz_inj hr (by decide)).mp h1)
  · omega
theorem mpk_bd (fr : Nat → Int32) (od : Nat → Int) (dg : Int → Int) : ∀ n : Nat, -1 ≤ mpk fr od dg n ∧ mpk fr od dg n < (n : Int) := by
  intro n
  induction n with
  | zero => exact ⟨by show (-1 : Int) ≤ -1; decide, by show (-1 : Int) < 0; decide⟩
  | succ n ih =>
    simp only [mpk]
    split
    · omega
    · omega
section W7
variable {d w k pc x y z : Nat} {A : vq_A} {r : List Value} {vh : vm_H} {Post : vq_Q}
theorem w_labX {v : Int64} {o : Nat} (e : vm_ent k pc = some (.invokestatic o, x, 12, z)) (hsm : (r.map fun v => v.category).sum ≤ 8) (hd : 1 ≤ d) (hw : 30 ≤ w) (g : vm_Wp d w k (pc + 3) A (.long (if 0 < v then v else -v) :: r) vh Post) : vm_Wp d w k pc A (.long v :: r) vh Post :=
  w_nt (fun ls => by unfold vm_nt; simp only [e]; rw [if_pos hsm]) hd hw g
end W7
