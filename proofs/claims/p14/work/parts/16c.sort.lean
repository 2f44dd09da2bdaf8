/-! Insertion, from the greatest down. -/
def srt (K : Nat → Int64) (x : Int) : Prop := ∀ i : Nat, (i : Int) + 1 < x → (K (i + 1)).toInt ≤ (K i).toInt
def shl (K : Nat → Int64) (key : Int64) (y x : Int) : Prop := (∀ i : Nat, (i : Int) + 1 < y → (K (i + 1)).toInt ≤ (K i).toInt) ∧ (∀ i : Nat, y < (i : Int) → (i : Int) + 1 ≤ x → (K (i + 1)).toInt ≤ (K i).toInt) ∧ (∀ i : Nat, (i : Int) + 1 = y → y < x → (K (i + 2)).toInt ≤ (K i).toInt) ∧ ∀ i : Nat, (i : Int) = y → y < x → (K (i + 1)).toInt < key.toInt
def hl (K F : Nat → Int64) (k f : Int64) (j : Nat) : Nat → Int64 × Int64 := fun t => if t = j then (k, f) else (K t, F t)
section SO
variable {K K1 F F1 : Nat → Int64} {key f : Int64} {x y : Int}
theorem shl_0 (h : srt K x) : shl K key x x := ⟨h, fun i h1 h2 => by omega, fun i h1 h2 => by omega, fun i h1 h2 => by omega⟩
theorem shl_step (h : shl K key y x) (hy : 0 < y ∧ y ≤ x) (hk : (K (y - 1).toNat).toInt < key.toInt) (hd : K1 = vp_updL K y.toNat (K (y - 1).toNat)) : shl K1 key (y - 1) x := by
  obtain ⟨a, b, c, d⟩ := h
  have e : y.toNat = (y - 1).toNat + 1 := by omega
  have hs : K1 y.toNat = K (y - 1).toNat := by rw [hd, up_s]
  have ho : ∀ j, j ≠ y.toNat → K1 j = K j := fun j hj => by rw [hd, up_o hj]
  refine ⟨fun i hi => ?_, fun i h1 h2 => ?_, fun i h1 h2 => ?_, fun i h1 h2 => ?_⟩
  · rw [ho _ (by omega), ho _ (by omega)]; exact a i (by omega)
  · rw [ho (i + 1) (by omega)]
    by_cases q : i = y.toNat
    · rw [q, hs]
      have h3 := c (y - 1).toNat (by omega) (by omega)
      rw [show y.toNat + 1 = (y - 1).toNat + 2 by omega]
      exact h3
    · rw [ho i q]; exact b i (by omega) h2
  · rw [show i + 2 = y.toNat by omega, hs, ho i (by omega)]
    have h3 := a i (by omega)
    rw [show (y - 1).toNat = i + 1 by omega]
    exact h3
  · rw [show i + 1 = y.toNat by omega, hs]; exact hk
theorem shl_end (h : shl K key y x) (hy : 0 ≤ y ∧ y ≤ x) (hk : y = 0 ∨ key.toInt ≤ (K (y - 1).toNat).toInt) (hd : K1 = vp_updL K y.toNat key) : srt K1 (x + 1) := by
  obtain ⟨a, b, c, d⟩ := h
  have hs : K1 y.toNat = key := by rw [hd, up_s]
  have ho : ∀ j, j ≠ y.toNat → K1 j = K j := fun j hj => by rw [hd, up_o hj]
  intro i hi
  by_cases q : i = y.toNat
  · rw [q, hs, ho _ (by omega)]
    exact Int.le_of_lt (d y.toNat (by omega) (by omega))
  · by_cases q2 : i + 1 = y.toNat
    · rw [q2, hs, ho i q]
      rcases hk with z | z
      · omega
      · rw [show (y - 1).toNat = i by omega] at z
        exact z
    · rw [ho _ q2, ho _ q]
      by_cases q3 : (i : Int) + 1 < y
      · exact a i q3
      · exact b i (by omega) (by omega)
theorem hl_0 {n : Nat} {j : Nat} (hk : K j = key) (hf : F j = f) : ls (hl K F key f j) n = ls (fun t => (K t, F t)) n := ls_cg n fun t _ => by
  unfold hl
  by_cases q : t = j
  · rw [if_pos q, q, hk, hf]
  · rw [if_neg q]
theorem hl_step {n : Nat} (hy : 0 < y ∧ y.toNat < n) (hd : K1 = vp_updL K y.toNat (K (y - 1).toNat)) (he : F1 = vp_updL F y.toNat (F (y - 1).toNat)) : (ls (hl K1 F1 key f (y - 1).toNat) n).Perm (ls (hl K F key f y.toNat) n) := by
  have e : y.toNat = (y - 1).toNat + 1 := by omega
  refine ls_swap (j := (y - 1).toNat) ?_ ?_ (fun t h1 h2 => ?_) n (by omega)
  · unfold hl
    rw [if_pos rfl, ← e, if_pos rfl]
  · unfold hl
    rw [← e, if_neg (by omega), if_neg (by omega), hd, he, up_s, up_s]
  · unfold hl
    rw [if_neg h1, if_neg (by omega), hd, he, up_o (by omega), up_o (by omega)]
theorem hl_end {n j : Nat} (hd : K1 = vp_updL K j key) (he : F1 = vp_updL F j f) : ls (fun t => (K1 t, F1 t)) n = ls (hl K F key f j) n := ls_cg n fun t _ => by
  unfold hl
  by_cases q : t = j
  · rw [if_pos q, q, hd, he, up_s, up_s]
  · rw [if_neg q, hd, he, up_o q, up_o q]
end SO
