section BS
variable {X Y : List Nat} {lo hi : Nat} {sc sc1 : Nat → Int} {ai ai1 : Nat → Nat → Int} {al al1 : Nat → Nat → Int64} {az az1 : Nat → Nat → Int32} {n b n1 b1 x : Int}
theorem bs_n (h : bs sc ai al az n b) (e : n1 = n) : bs sc ai al az n1 b := by rw [e]; exact h
theorem bs_w (h : bs sc ai al az n b) (e : b ≤ b1) : bs sc ai al az n b1 := fun m hm => ⟨by have := h m hm; omega, (h m hm).2⟩
theorem bs_last (h : bs sc ai al az n b) (h0 : 0 ≤ n) : n = 0 ∨ n - 1 ≤ mpI sc ai al az (ai 261 (n - 1).toNat) := by
  by_cases q : n = 0
  · exact Or.inl q
  · have h1 := (h (n - 1).toNat (by omega)).2
    exact Or.inr (by omega)
theorem bs_add (h : bs sc ai al az (sc 40) b) (hk : tmok ai) (h0 : 0 ≤ sc 40) (hx : 16 ≤ x ∧ x < b) (hm : sc 40 ≤ mpI sc ai al az x) (hd : ai1 = u2 ai 261 (sc 40).toNat x) (hd2 : sc1 = u1 sc 40 (sc 40 + 1)) : bs sc1 ai1 al az (sc1 40) b := by
  have e : sc1 40 = sc 40 + 1 := by rw [hd2]; exact u1_s
  have f : fr [40] [261] 1 0 sc ai al az sc1 ai1 al az := fr_s (fr_i (fr_0 _ _ _ _ _ _ _ _) hd rfl (by decide)) hd2 rfl
  intro m hm1
  rw [e] at hm1
  by_cases q : m = (sc 40).toNat
  · have e2 : ai1 261 m = x := by rw [hd, q, u2_s]
    rw [e2, mpI_fr f hk rfl rfl rfl (by omega) (by omega)]
    exact ⟨hx, by omega⟩
  · have e2 : ai1 261 m = ai 261 m := by rw [hd, u2_o q]
    have h1 := h m (by omega)
    rw [e2, mpI_fr f hk rfl rfl rfl (by omega) (by omega)]
    exact h1
/-- the rows have main places -/
def rws (sc : Nat → Int) (ai : Nat → Nat → Int) (al : Nat → Nat → Int64) (az : Nat → Nat → Int32) (n : Int) : Prop := ∀ r : Int, 0 ≤ r → r < n → 0 ≤ mpI sc ai al az (16 + r)
theorem rws_n (h : rws sc ai al az n) (e : n1 = n) : rws sc ai al az n1 := by rw [e]; exact h
theorem rws_fr (h : rws sc ai al az n) (hk : tmok ai) (hf : fr X Y lo hi sc ai al az sc1 ai1 al1 az1) (h1 : X.contains 1 = false) (h2 : Y.contains 239 = false) (h3 : Y.contains 240 = false) (hb : hi < lo ∨ 16 + n ≤ (lo : Int)) : rws sc1 ai1 al1 az1 n := fun r h0 hr => by
  rw [mpI_fr hf hk h1 h2 h3 (by omega) (by omega)]
  exact h r h0 hr
theorem rws_add (h : rws sc ai al az n) (hn : 0 ≤ mpI sc ai al az (16 + n)) : rws sc ai al az (n + 1) := fun r h0 hr => by
  by_cases q : r = n
  · rw [q]; exact hn
  · exact h r h0 (by omega)
/-- the members have main places -/
def mb (sc : Nat → Int) (ai : Nat → Nat → Int) (al : Nat → Nat → Int64) (az : Nat → Nat → Int32) (n : Int) : Prop := ∀ m : Int, 0 ≤ m → m < n → m ≤ mpI sc ai al az (58 + m)
theorem mb_n (h : mb sc ai al az n) (e : n1 = n) : mb sc ai al az n1 := by rw [e]; exact h
theorem mb_fr (h : mb sc ai al az n) (hk : tmok ai) (hf : fr X Y lo hi sc ai al az sc1 ai1 al1 az1) (h1 : X.contains 1 = false) (h2 : Y.contains 239 = false) (h3 : Y.contains 240 = false) (hb : hi < lo ∨ hi < 58 ∨ 58 + n ≤ (lo : Int)) : mb sc1 ai1 al1 az1 n := fun r h0 hr => by
  rw [mpI_fr hf hk h1 h2 h3 (by omega) (by omega)]
  exact h r h0 hr
theorem mb_add (h : mb sc ai al az n) (hn : n ≤ mpI sc ai al az (58 + n)) : mb sc ai al az (n + 1) := fun r h0 hr => by
  by_cases q : r = n
  · rw [q]; exact hn
  · exact h r h0 (by omega)
theorem bs_mb (h : mb sc ai al az n) (hn : n ≤ 8) (e : ∀ m : Nat, (m : Int) < n → ai 261 m = 58 + (m : Int)) : bs sc ai al az n 67 := fun m hm => by
  rw [e m hm]
  exact ⟨by omega, h m (by omega) hm⟩
/-- every variable has a place -/
def sj (sc : Nat → Int) (ai : Nat → Nat → Int) : Prop := ∀ v : Int, 0 ≤ v → v < sc 1 → ∃ j : Nat, (j : Int) < sc 1 ∧ ai 240 j = v
def pk (sc : Nat → Int) (ai : Nat → Nat → Int) : Prop := (0 ≤ sc 19 ∧ sc 19 ≤ 200) ∧ ∀ s : Nat, (s : Int) < sc 19 → ((0 ≤ ai 246 s ∧ ai 246 s < sc 11) ∧ 0 ≤ ai 247 s ∧ 0 ≤ ai 248 s ∧ ai 247 s + ai 248 s ≤ 12300)
def ri2 (sc : Nat → Int) (ai : Nat → Nat → Int) (al : Nat → Nat → Int64) (az : Nat → Nat → Int32) : Prop := sj sc ai ∧ ((0 ≤ sc 11 ∧ sc 11 ≤ 8) ∧ mb sc ai al az (sc 11)) ∧ (sc 18 = 0 ∨ pk sc ai)
theorem sj_fr (h : sj sc ai) (hf : fr X Y lo hi sc ai al az sc1 ai1 al1 az1) (h1 : X.contains 1 = false) (h3 : Y.contains 240 = false) : sj sc1 ai1 := by
  unfold sj
  rw [hf.1 1 h1, hf.2.1 240 h3 (by decide)]
  exact h
theorem ri2_fr (h : ri2 sc ai al az) (hk : tmok ai) (hf : fr X Y lo hi sc ai al az sc1 ai1 al1 az1) (h1 : X.contains 1 = false) (h11 : X.contains 11 = false) (h18 : X.contains 18 = false) (h19 : X.contains 19 = false) (h2 : Y.contains 239 = false) (h3 : Y.contains 240 = false) (h4 : Y.contains 246 = false) (h5 : Y.contains 247 = false) (h6 : Y.contains 248 = false) (hb : hi < lo ∨ hi < 58 ∨ 66 ≤ lo) : ri2 sc1 ai1 al1 az1 := by
  have h0 := h.2.1.1
  refine ⟨sj_fr h.1 hf h1 h3, ⟨?_, ?_⟩, ?_⟩
  · rw [hf.1 11 h11]; exact h0
  · rw [hf.1 11 h11]; exact mb_fr h.2.1.2 hk hf h1 h2 h3 (by omega)
  · unfold pk
    rw [hf.1 18 h18, hf.1 19 h19, hf.1 11 h11, hf.2.1 246 h4 (by decide), hf.2.1 247 h5 (by decide), hf.2.1 248 h6 (by decide)]
    exact h.2.2
/-- nothing is held -/
theorem ri2_0 (h : sj sc ai) (h1 : sc 11 = 0) (h2 : sc 18 = 0) : ri2 sc ai al az := ⟨h, ⟨by omega, fun m h0 hm => by omega⟩, Or.inl h2⟩
end BS
