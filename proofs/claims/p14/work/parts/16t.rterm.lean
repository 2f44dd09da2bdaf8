/-! A term is added to a slot of the reference. -/
def idv : Nat → Int := fun j => (j : Int)
theorem idv_r (j : Nat) (h : j < 8) : 0 ≤ idv j ∧ idv j < 8 := by unfold idv; omega
theorem nbl_bit {w : Int32} {x q : Int} (hx : 0 ≤ x ∧ x < 8) (h : nbl w x = vz q) (r : Nat) (hr : r < 4) : (vz q).toBitVec.getLsbD r = w.toBitVec.getLsbD (4 * x.toNat + r) := by
  rw [← h, bt_n hx]
  simp [hr]
theorem nbl_bd {w : Int32} {x q : Int} (h : nbl w x = vz q) (hq : -2147483648 ≤ q ∧ q < 2147483648) : 0 ≤ q ∧ q ≤ 15 := by
  unfold nbl at h
  obtain ⟨p, e, hp⟩ := vz_ex (w.toUInt32 >>> ((vz (4 * x)).toUInt32 &&& Int32.toUInt32 31)).toInt32
  rw [e] at h
  have h1 := vz_and hp (show (0 : Int) ≤ 15 by decide) (by decide)
  rw [h, vz_toInt hq] at h1
  exact h1
theorem nbl_z {w : Int32} {x q : Int} (hx : 0 ≤ x ∧ x < 8) (h : nbl w x = vz q) (hq : q = 0) : ∀ r, r < 4 → w.toBitVec.getLsbD (4 * x.toNat + r) = false := fun r hr => by
  rw [← nbl_bit hx h r hr, hq]
  have z : (vz 0).toBitVec = 0#32 := rfl
  rw [z, BitVec.getLsbD_zero]
theorem nbl_p {w : Int32} {x q : Int} (hx : 0 ≤ x ∧ x < 8) (h : nbl w x = vz q) (hr : -2147483648 ≤ q ∧ q < 2147483648) (hq : q ≠ 0) : ¬ ∀ r, r < 4 → w.toBitVec.getLsbD (4 * x.toNat + r) = false := fun hz => by
  apply hq
  apply (vz_inj hr (by decide)).mp
  rw [← h]
  apply Int32.toBitVec_inj.mp
  apply BitVec.eq_of_getLsbD_eq
  intro i hi
  have z : (vz 0).toBitVec = 0#32 := rfl
  rw [bt_n hx, z, BitVec.getLsbD_zero]
  by_cases h4 : i < 4
  · rw [hz i h4]; simp
  · simp [h4]
/-- no power of a variable that is not there, up to x -/
def vlx (w : Int32) (n x : Int) : Prop := ∀ j : Nat, 4 * n.toNat ≤ j → j < 4 * x.toNat → w.toBitVec.getLsbD j = false
theorem vlx_0 {w : Int32} {n : Int} : vlx w n 0 := fun j _ h => by omega
theorem vlx_z {w : Int32} {n x q : Int} (h : vlx w n x) (hx : 0 ≤ x ∧ x < 8) (hq : nbl w x = vz q) (h0 : q = 0) : vlx w n (x + 1) := fun j h1 h2 => by
  by_cases q1 : j < 4 * x.toNat
  · exact h j h1 q1
  · have := nbl_z hx hq h0 (j - 4 * x.toNat) (by omega)
    rw [show 4 * x.toNat + (j - 4 * x.toNat) = j by omega] at this
    exact this
theorem vlx_l {w : Int32} {n x : Int} (hx : 0 ≤ x) (h : x < n) : vlx w n (x + 1) := fun j h1 h2 => by omega
theorem vlx_v {w : Int32} {n x : Int} (h : vlx w n x) (hx : x = 8) : val n.toNat w := fun i hi => by
  by_cases q : i < 32
  · exact h i hi (by omega)
  · exact BitVec.getLsbD_of_ge _ _ (by omega)
theorem vlx_n {w : Int32} {n x q : Int} (hx : 0 ≤ x ∧ x < 8) (hn : 0 ≤ n ∧ n ≤ x) (hq : nbl w x = vz q) (hr : -2147483648 ≤ q ∧ q < 2147483648) (h0 : q ≠ 0) : ¬ val n.toNat w := fun h => nbl_p hx hq hr h0 fun r _ => h _ (by omega)
theorem kofi_s {w : Int32} {x q : Int} {y : Int64} (h : y = kof idv w x.toNat) (hx : 0 ≤ x) (hq : nbl w x = vz q) : (y ||| ((vz q).toInt64 <<< ((vz (8 * x)).toInt64 &&& 63))) = kof idv w (x + 1).toNat := by
  have h1 := kof_s (V := idv) h hx
  rw [show idv x.toNat = x by unfold idv; omega, hq] at h1
  exact h1
/-- where the key stands, or that it doesn't -/
def fnd (K : Nat → Int64) (n : Int) (k : Int64) (t : Int) : Prop := (0 ≤ t ∧ t ≤ n) ∧ (∀ j : Nat, (j : Int) < t → K j ≠ k) ∧ (t < n → K t.toNat = k)
def rtr (O : List (Int64 × Int64)) (K C : Nat → Int64) (n : Int) (k v : Int64) (q n1 : Int) (N : List (Int64 × Int64)) (t : Int) : Prop :=
  (q = 0 ∧ n1 = n ∧ N = O ∧ (¬ vr v ∨ (t < n ∧ ¬ sr (C t.toNat + v)) ∨ (¬ t < n ∧ (¬ sr v ∨ (v.toInt ≠ 0 ∧ n = 60))))) ∨
  (q = 1 ∧ v.toInt = 0 ∧ n1 = n ∧ N = O) ∨
  (q = 1 ∧ v.toInt ≠ 0 ∧ vr v ∧ ¬ t < n ∧ sr v ∧ n < 60 ∧ n1 = n + 1 ∧ N.Perm ((k, v) :: O)) ∨
  (q = 1 ∧ v.toInt ≠ 0 ∧ vr v ∧ t < n ∧ sr (C t.toNat + v) ∧ (C t.toNat + v).toInt = 0 ∧ n1 = n - 1 ∧ O.Perm ((k, C t.toNat) :: N)) ∨
  (q = 1 ∧ v.toInt ≠ 0 ∧ vr v ∧ t < n ∧ sr (C t.toNat + v) ∧ (C t.toNat + v).toInt ≠ 0 ∧ n1 = n ∧ ∃ R : List (Int64 × Int64), N.Perm ((k, C t.toNat + v) :: R) ∧ O.Perm ((k, C t.toNat) :: R))
/-- the places from x on come down by one -/
def shf (al al1 : Nat → Nat → Int64) (b : Nat) (t x : Int) : Prop := ∀ j : Nat, (((j : Int) < t ∨ x ≤ (j : Int)) → al1 243 (b + j) = al 243 (b + j) ∧ al1 244 (b + j) = al 244 (b + j)) ∧ ((t ≤ (j : Int) ∧ (j : Int) < x) → al1 243 (b + j) = al 243 (b + j + 1) ∧ al1 244 (b + j) = al 244 (b + j + 1))
theorem shf_0 {al : Nat → Nat → Int64} {b : Nat} {t : Int} : shf al al b t t := fun j => ⟨fun _ => ⟨rfl, rfl⟩, fun h => by omega⟩
theorem shf_s {al al0 al1 al2 : Nat → Nat → Int64} {s t x y : Int} (h : shf al al0 (60 * s).toNat t x) (hs : 0 ≤ s ∧ y = 60 * s) (hx : 0 ≤ t ∧ t ≤ x) (h1 : al1 = u2 al0 243 (y + x).toNat (al0 243 (y + x + 1).toNat)) (h2 : al2 = u2 al1 244 (y + x).toNat (al1 244 (y + x + 1).toNat)) : shf al al2 (60 * s).toNat t (x + 1) := by
  have i1 : (y + x).toNat = (60 * s).toNat + x.toNat := by omega
  have i2 : (y + x + 1).toNat = (60 * s).toNat + x.toNat + 1 := by omega
  rw [i1, i2] at h1 h2
  have q := h (x.toNat + 1)
  have q0 := q.1 (Or.inr (by omega))
  rw [← Nat.add_assoc] at q0
  have ao : ∀ j, j ≠ x.toNat → al2 243 ((60 * s).toNat + j) = al0 243 ((60 * s).toNat + j) ∧ al2 244 ((60 * s).toNat + j) = al0 244 ((60 * s).toNat + j) := fun j hj => by
    refine ⟨?_, ?_⟩
    · rw [h2, u2_n (by omega), h1, u2_n (by omega)]
    · rw [h2, u2_n (by omega), h1, u2_n (by omega)]
  intro j
  refine ⟨fun hj => ?_, fun hj => ?_⟩
  · rw [(ao j (by omega)).1, (ao j (by omega)).2]
    exact (h j).1 (by omega)
  · by_cases e : j = x.toNat
    · subst e
      refine ⟨?_, ?_⟩
      · rw [h2, u2_a (by decide), h1, u2_s]; exact q0.1
      · rw [h2, u2_s, h1, u2_a (by decide)]; exact q0.2
    · rw [(ao j e).1, (ao j e).2]
      exact (h j).2 (by omega)
theorem ls_ins2 {α : Type} {g h : Nat → α} {j n : Nat} {x : α} (h0 : ∀ t, t < j → h t = g t) (h1 : h j = x) (h2 : ∀ t, j ≤ t → t < n → h (t + 1) = g t) (hj : j ≤ n) : (ls h (n + 1)).Perm (x :: ls g n) := by
  have e : ls h (n + 1) = ls (fun t => if t < j then g t else if t = j then x else g (t - 1)) (n + 1) := ls_cg _ fun t ht => by
    by_cases q1 : t < j
    · rw [if_pos q1, h0 t q1]
    · rw [if_neg q1]
      by_cases q2 : t = j
      · rw [if_pos q2, q2, h1]
      · rw [if_neg q2]
        have h3 := h2 (t - 1) (by omega) (by omega)
        rw [show t - 1 + 1 = t by omega] at h3
        exact h3
  rw [e]
  refine ls_ins (j := j) (fun t ht => by rw [if_pos ht]) (by rw [if_neg (by omega), if_pos rfl]) (fun t ht => ?_) n hj
  rw [if_neg (by omega), if_neg (by omega), Nat.add_sub_cancel]
theorem shf_e {al al1 : Nat → Nat → Int64} {b n : Nat} {t x : Int} (h : shf al al1 b t x) (ht : 0 ≤ t ∧ t < (n : Int)) (hx : (n : Int) ≤ x + 1 ∧ x + 1 ≤ (n : Int)) : (ls (pr_ al b) n).Perm (pr_ al b t.toNat :: ls (pr_ al1 b) (n - 1)) := by
  obtain ⟨m, rfl⟩ : ∃ m, n = m + 1 := ⟨n - 1, by omega⟩
  refine ls_ins2 (j := t.toNat) (fun j hj => ?_) rfl (fun j h1 h2 => ?_) (by omega)
  · have q := (h j).1 (Or.inl (by omega))
    unfold pr_
    rw [q.1, q.2]
  · have q := (h j).2 (by omega)
    unfold pr_
    rw [q.1, q.2]
    rfl
theorem put_e {al al1 al2 : Nat → Nat → Int64} {s y : Int} {n : Nat} {k c : Int64} (hs : 0 ≤ s ∧ y = 60 * s) (h1 : al1 = u2 al 243 (y + (n : Int)).toNat c) (h2 : al2 = u2 al1 244 (y + (n : Int)).toNat k) : (ls (pr_ al2 (60 * s).toNat) (n + 1)).Perm ((k, c) :: ls (pr_ al (60 * s).toNat) n) := by
  have i1 : (y + (n : Int)).toNat = (60 * s).toNat + n := by omega
  rw [i1] at h1 h2
  refine ls_ins2 (j := n) (fun j hj => ?_) ?_ (fun t q1 q2 => by omega) (Nat.le_refl _)
  · unfold pr_
    rw [h2, h1, u2_n (by omega), u2_n (by omega), u2_n (by omega), u2_n (by omega)]
  · unfold pr_
    rw [h2, u2_s, u2_a (by decide), h1, u2_s]
theorem upd_e {al al1 : Nat → Nat → Int64} {s y t : Int} {n : Nat} {c : Int64} (hs : 0 ≤ s ∧ y = 60 * s) (ht : 0 ≤ t ∧ t < (n : Int)) (h1 : al1 = u2 al 243 (y + t).toNat c) : ∃ R : List (Int64 × Int64), (ls (pr_ al1 (60 * s).toNat) n).Perm ((al 244 ((60 * s).toNat + t.toNat), c) :: R) ∧ (ls (pr_ al (60 * s).toNat) n).Perm (pr_ al (60 * s).toNat t.toNat :: R) := by
  have i1 : (y + t).toNat = (60 * s).toNat + t.toNat := by omega
  rw [i1] at h1
  refine ls_upd (j := t.toNat) ?_ (fun j hj => ?_) n (by omega)
  · unfold pr_
    rw [h1, u2_s, u2_a (by decide)]
  · unfold pr_
    rw [h1, u2_n (by omega), u2_n (by omega)]
