theorem val_8 {w : Int32} : val 8 w := fun i hi => BitVec.getLsbD_of_ge _ _ (by omega)
theorem val_sh {w : Int32} {n : Nat} (hn : n < 8) : (w.toUInt32 >>> ((vz (4 * (n : Int))).toUInt32 &&& Int32.toUInt32 31)).toInt32 = vz 0 ↔ val n w := by
  have key : ∀ (s : UInt32) (k : Nat), s.toBitVec % 32 = BitVec.ofNat 32 k → k < 32 → ((w.toUInt32 >>> s).toInt32 = vz 0 ↔ ∀ i : Nat, k ≤ i → w.toBitVec.getLsbD i = false) := by
    intro s k hs hk
    have e : (w.toUInt32 >>> s).toInt32.toBitVec = w.toBitVec >>> (s.toBitVec % 32) := rfl
    have eb : ∀ i, (w.toUInt32 >>> s).toInt32.toBitVec.getLsbD i = w.toBitVec.getLsbD (k + i) := fun i => by
      rw [e, hs, BitVec.ushiftRight_eq', BitVec.toNat_ofNat, Nat.mod_eq_of_lt (by omega), BitVec.getLsbD_ushiftRight]
    constructor
    · intro h i hi
      have h1 := eb (i - k)
      rw [h, show k + (i - k) = i by omega] at h1
      rw [← h1]
      have z : (vz 0).toBitVec = 0#32 := rfl
      rw [z, BitVec.getLsbD_zero]
    · intro h
      apply Int32.toBitVec_inj.mp
      apply BitVec.eq_of_getLsbD_eq
      intro i hi
      have z : (vz 0).toBitVec = 0#32 := rfl
      rw [eb, h _ (by omega), z, BitVec.getLsbD_zero]
  unfold val
  match n, hn with
  | 0, _ => exact key _ 0 (by decide) (by decide)
  | 1, _ => exact key _ 4 (by decide) (by decide)
  | 2, _ => exact key _ 8 (by decide) (by decide)
  | 3, _ => exact key _ 12 (by decide) (by decide)
  | 4, _ => exact key _ 16 (by decide) (by decide)
  | 5, _ => exact key _ 20 (by decide) (by decide)
  | 6, _ => exact key _ 24 (by decide) (by decide)
  | 7, _ => exact key _ 28 (by decide) (by decide)
/-! The reference's sort: what a slot holds stays, in whatever order. -/
def pr_ (al : Nat → Nat → Int64) (b : Nat) : Nat → Int64 × Int64 := fun t => (al 244 (b + t), al 243 (b + t))
def hlr (al : Nat → Nat → Int64) (b j : Nat) (k c : Int64) : Nat → Int64 × Int64 := fun t => if t = j then (k, c) else (al 244 (b + t), al 243 (b + t))
def sfr (al al1 : Nat → Nat → Int64) (b : Nat) : Prop := (∀ a, a ≠ 243 ∧ a ≠ 244 → al1 a = al a) ∧ ∀ a j, j < b ∨ b + 60 ≤ j → al1 a j = al a j
section RS
variable {al al0 al1 al2 : Nat → Nat → Int64} {b n : Nat} {k c v : Int64} {s x y : Int}
theorem sfr_0 : sfr al al b := ⟨fun _ _ => rfl, fun _ _ _ => rfl⟩
theorem sfr_k (h : sfr al al0 b) (hd : al1 = u2 al0 244 x.toNat v) (hx : (b : Int) ≤ x ∧ x < (b : Int) + 60) : sfr al al1 b := by
  subst hd
  exact ⟨fun a q => by rw [u2_af q.2]; exact h.1 a q, fun a j q => by rw [u2_n (by omega)]; exact h.2 a j q⟩
theorem sfr_c (h : sfr al al0 b) (hd : al1 = u2 al0 243 x.toNat v) (hx : (b : Int) ≤ x ∧ x < (b : Int) + 60) : sfr al al1 b := by
  subst hd
  exact ⟨fun a q => by rw [u2_af q.1]; exact h.1 a q, fun a j q => by rw [u2_n (by omega)]; exact h.2 a j q⟩
theorem hlr_0 (hs : 0 ≤ s ∧ x = 60 * s) (hy : 0 ≤ y) (hk : k = al 244 (x + y).toNat) (hc : c = al 243 (x + y).toNat) : ls (hlr al (60 * s).toNat y.toNat k c) n = ls (pr_ al (60 * s).toNat) n := ls_cg n fun t _ => by
  unfold hlr pr_
  by_cases q : t = y.toNat
  · rw [if_pos q, q, hk, hc, show (x + y).toNat = (60 * s).toNat + y.toNat by omega]
  · rw [if_neg q]
theorem hlr_s (hs : 0 ≤ s ∧ x = 60 * s) (hy : 0 < y ∧ y.toNat < n) (h1 : al1 = u2 al0 243 (x + y).toNat (al0 243 (x + y - 1).toNat)) (h2 : al2 = u2 al1 244 (x + y).toNat (al1 244 (x + y - 1).toNat)) : (ls (hlr al2 (60 * s).toNat (y - 1).toNat k c) n).Perm (ls (hlr al0 (60 * s).toNat y.toNat k c) n) := by
  have e : y.toNat = (y - 1).toNat + 1 := by omega
  have i1 : (x + y).toNat = (60 * s).toNat + y.toNat := by omega
  have i2 : (x + y - 1).toNat = (60 * s).toNat + (y - 1).toNat := by omega
  rw [i1, i2] at h1 h2
  have a4 : al2 244 ((60 * s).toNat + y.toNat) = al0 244 ((60 * s).toNat + (y - 1).toNat) := by rw [h2, u2_s, h1, u2_a (by decide)]
  have a3 : al2 243 ((60 * s).toNat + y.toNat) = al0 243 ((60 * s).toNat + (y - 1).toNat) := by rw [h2, u2_a (by decide), h1, u2_s]
  have ao : ∀ t, t ≠ y.toNat → al2 244 ((60 * s).toNat + t) = al0 244 ((60 * s).toNat + t) ∧ al2 243 ((60 * s).toNat + t) = al0 243 ((60 * s).toNat + t) := fun t ht => by
    refine ⟨?_, ?_⟩
    · rw [h2, u2_n (by omega), h1, u2_n (by omega)]
    · rw [h2, u2_n (by omega), h1, u2_n (by omega)]
  refine ls_swap (j := (y - 1).toNat) ?_ ?_ (fun t q1 q2 => ?_) n (by omega)
  · unfold hlr
    rw [if_pos rfl, ← e, if_pos rfl]
  · unfold hlr
    rw [← e, if_neg (by omega), if_neg (by omega), a4, a3]
  · unfold hlr
    rw [if_neg q1, if_neg (by omega), (ao t (by omega)).1, (ao t (by omega)).2]
theorem hlr_e (hs : 0 ≤ s ∧ x = 60 * s) (hy : 0 ≤ y) (h1 : al1 = u2 al0 243 (x + y).toNat c) (h2 : al2 = u2 al1 244 (x + y).toNat k) : ls (pr_ al2 (60 * s).toNat) n = ls (hlr al0 (60 * s).toNat y.toNat k c) n := ls_cg n fun t _ => by
  have i1 : (x + y).toNat = (60 * s).toNat + y.toNat := by omega
  rw [i1] at h1 h2
  unfold hlr pr_
  by_cases q : t = y.toNat
  · rw [if_pos q, q, h2, u2_s, u2_a (by decide), h1, u2_s]
  · rw [if_neg q, h2, u2_n (by omega), h1, u2_n (by omega), u2_n (by omega), u2_n (by omega)]
end RS
