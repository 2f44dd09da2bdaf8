section PB
variable {X Y : List Nat} {lo hi : Nat} {sc sc1 : Nat → Int} {ai ai1 : Nat → Nat → Int} {al al1 : Nat → Nat → Int64} {az az1 : Nat → Nat → Int32} {n b n1 b1 x v w : Int}
theorem gi_v (h : gi sc ai al az) (hd : sc1 = u1 sc 1 v) (hv : 0 ≤ v ∧ v ≤ 8) : gi sc1 ai al az := by
  refine ⟨⟨⟨?_, ?_⟩, h.1.2⟩, ?_, h.2.2⟩
  · rw [hd, u1_s]; exact hv
  · rw [hd, u1_o (by decide)]; exact h.1.1.2
  · rw [hd, u1_o (by decide)]; exact h.2.1
theorem gi_p (h : gi sc ai al az) (hd : sc1 = u1 sc 4 v) (hv : 0 ≤ v ∧ v ≤ 16) : gi sc1 ai al az := by
  refine ⟨⟨⟨?_, ?_⟩, h.1.2⟩, ?_, h.2.2⟩
  · rw [hd, u1_o (by decide)]; exact h.1.1.1
  · rw [hd, u1_s]; exact hv
  · rw [hd, u1_o (by decide)]; exact h.2.1
theorem sjk_fr (h : sj sc ai) (_ : tmok ai) (hf : fr X Y lo hi sc ai al az sc1 ai1 al1 az1) (h1 : X.contains 1 = false) (h3 : Y.contains 240 = false) : sj sc1 ai1 := sj_fr h hf h1 h3
theorem sj_add (h : sj sc ai) (h0 : 0 ≤ sc 1) (hd : ai1 = u2 ai 240 (sc 1).toNat (sc 1)) (hd2 : sc1 = u1 sc 1 (sc 1 + 1)) : sj sc1 ai1 := by
  have e : sc1 1 = sc 1 + 1 := by rw [hd2]; exact u1_s
  intro v h1 h2
  rw [e] at h2 ⊢
  by_cases q : v = sc 1
  · exact ⟨(sc 1).toNat, by omega, by rw [hd, u2_s, q]⟩
  · obtain ⟨j, hj, hv⟩ := h v h1 (by omega)
    exact ⟨j, by omega, by rw [hd, u2_o (by omega)]; exact hv⟩
/-- all but one have places, apart from a hole -/
def hol (ai : Nat → Nat → Int) (n v w : Int) : Prop := ∀ u : Int, 0 ≤ u → u < n → u ≠ v → ∃ j : Nat, (j : Int) < n ∧ (j : Int) ≠ w ∧ ai 240 j = u
theorem hol_0 (h : sj sc ai) (hw : 0 ≤ w) (hv : ai 240 w.toNat = v) : hol ai (sc 1) v w := by
  intro u h0 h1 h2
  obtain ⟨j, hj, hu⟩ := h u h0 h1
  refine ⟨j, hj, fun e => h2 ?_, hu⟩
  have e2 : w.toNat = j := by omega
  rw [e2] at hv
  rw [← hv, hu]
theorem hol_n (h : hol ai n v w) (e : n1 = n) : hol ai n1 v w := by rw [e]; exact h
theorem hol_up {c : Int} (h : hol ai n v w) (hw : 0 ≤ w ∧ w + 1 < n) (hc : c = ai 240 (w + 1).toNat) (hd : ai1 = u2 ai 240 w.toNat c) : hol ai1 n v (w + 1) := by
  intro u h0 h1 h2
  obtain ⟨j, hj, hjw, hu⟩ := h u h0 h1 h2
  by_cases q : (j : Int) = w + 1
  · refine ⟨w.toNat, by omega, by omega, ?_⟩
    rw [hd, u2_s, hc, ← hu]
    congr 1
    omega
  · exact ⟨j, hj, q, by rw [hd, u2_o (by omega)]; exact hu⟩
theorem hol_dn {c : Int} (h : hol ai n v w) (hw : 0 < w ∧ w < n) (hc : c = ai 240 (w - 1).toNat) (hd : ai1 = u2 ai 240 w.toNat c) : hol ai1 n v (w - 1) := by
  intro u h0 h1 h2
  obtain ⟨j, hj, hjw, hu⟩ := h u h0 h1 h2
  by_cases q : (j : Int) = w - 1
  · refine ⟨w.toNat, by omega, by omega, ?_⟩
    rw [hd, u2_s, hc, ← hu]
    congr 1
    omega
  · exact ⟨j, hj, q, by rw [hd, u2_o (by omega)]; exact hu⟩
theorem hol_end (h : hol ai (sc 1) v w) (hw : 0 ≤ x ∧ x < sc 1) (e : w = x) (hd : ai1 = u2 ai 240 x.toNat v) : sj sc ai1 := by
  intro u h0 h1
  by_cases q : u = v
  · exact ⟨x.toNat, by omega, by rw [hd, u2_s, q]⟩
  · obtain ⟨j, hj, hjw, hu⟩ := h u h0 h1 q
    exact ⟨j, hj, by rw [hd, u2_o (by omega)]; exact hu⟩
theorem l_add {x y : Int64} (hx : -67108864 ≤ x.toInt ∧ x.toInt ≤ 67108864) (hy : -134217728 ≤ y.toInt ∧ y.toInt ≤ 134217728) : (x + y).toInt = x.toInt + y.toInt := by
  rw [Int64.toInt_add, l_bm (by omega)]
theorem sg_w {b : Nat} {i : Nat} {c : Int64} (h : sg al b n) (hc : gl c) (hd : al1 = u2 al 243 i c) : sg al1 b n := fun t ht => by
  rw [hd]
  by_cases q : b + t = i
  · rw [q, u2_s]; exact hc
  · rw [u2_o q]; exact h t ht
theorem sg_k {b : Nat} {i : Nat} {c : Int64} (h : sg al b n) (hd : al1 = u2 al 244 i c) : sg al1 b n := fun t ht => by
  rw [hd, u2_a (by decide)]
  exact h t ht
theorem sg_gd {s : Int} (h : gd ai al) (hs : 0 ≤ s ∧ s < 72) (e : n = ai 242 s.toNat) : sg al (60 * s).toNat n := fun t ht => by
  have e2 : (60 * s).toNat + t = 60 * s.toNat + t := by omega
  rw [e2]
  exact h _ _ (by omega) (by omega)
theorem sg_m (h : sg al n.toNat b) (e : b1 ≤ b) : sg al n.toNat b1 := fun t ht => h t (by omega)
/-- the steps of the proof, laid so far -/
def pk2 (ai : Nat → Nat → Int) (n x : Int) : Prop := ∀ s : Nat, (s : Int) < x → ((0 ≤ ai 246 s ∧ ai 246 s < n) ∧ 0 ≤ ai 247 s ∧ 0 ≤ ai 248 s ∧ ai 247 s + ai 248 s ≤ 12300)
theorem pk2_add {ai2 ai3 : Nat → Nat → Int} {p q r : Int} (h : pk2 ai n x) (hx : 0 ≤ x) (hd1 : ai1 = u2 ai 246 x.toNat p) (hd2 : ai2 = u2 ai1 247 x.toNat q) (hd3 : ai3 = u2 ai2 248 x.toNat r) (hc : (0 ≤ p ∧ p < n) ∧ 0 ≤ q ∧ 0 ≤ r ∧ q + r ≤ 12300) : pk2 ai3 n (x + 1) := by
  intro s hs
  by_cases e : s = x.toNat
  · have q1 : ai3 246 s = p := by rw [hd3, u2_a (by decide), hd2, u2_a (by decide), hd1, e, u2_s]
    have q2 : ai3 247 s = q := by rw [hd3, u2_a (by decide), hd2, e, u2_s]
    have q3 : ai3 248 s = r := by rw [hd3, e, u2_s]
    rw [q1, q2, q3]; exact hc
  · have q1 : ai3 246 s = ai 246 s := by rw [hd3, u2_a (by decide), hd2, u2_a (by decide), hd1, u2_o e]
    have q2 : ai3 247 s = ai 247 s := by rw [hd3, u2_a (by decide), hd2, u2_o e, hd1, u2_a (by decide)]
    have q3 : ai3 248 s = ai 248 s := by rw [hd3, u2_o e, hd2, u2_a (by decide), hd1, u2_a (by decide)]
    rw [q1, q2, q3]; exact h s (by omega)
theorem pk2_fr (h : pk2 ai n x) (_ : tmok ai) (hf : fr X Y lo hi sc ai al az sc1 ai1 al1 az1) (h4 : Y.contains 246 = false) (h5 : Y.contains 247 = false) (h6 : Y.contains 248 = false) : pk2 ai1 n x := by
  unfold pk2
  rw [hf.2.1 246 h4 (by decide), hf.2.1 247 h5 (by decide), hf.2.1 248 h6 (by decide)]
  exact h
theorem nk_fr (h : nk sc ai n) (_ : tmok ai) (hf : fr X Y lo hi sc ai al az sc1 ai1 al1 az1) (h1 : X.contains 27 = false) (h2 : X.contains 28 = false) (h4 : Y.contains 252 = false) (h5 : Y.contains 253 = false) (h6 : Y.contains 254 = false) : nk sc1 ai1 n := by
  unfold nk
  rw [hf.1 27 h1, hf.1 28 h2, hf.2.1 252 h4 (by decide), hf.2.1 253 h5 (by decide), hf.2.1 254 h6 (by decide)]
  exact h
theorem ri2_pk (hs : sj sc ai) (hm : (0 ≤ sc 11 ∧ sc 11 ≤ 8) ∧ mb sc ai al az (sc 11)) (h0 : 0 ≤ sc 19 ∧ sc 19 ≤ 200) (hp : pk2 ai n x) (hx : sc 19 ≤ x) (hn : n ≤ sc 11) : ri2 sc ai al az := ⟨hs, hm, Or.inr ⟨h0, fun s h => by have := hp s (by omega); omega⟩⟩
theorem ri2_mb (hs : sj sc ai) (h1 : 0 ≤ sc 11 ∧ sc 11 ≤ 8) (hm : mb sc ai al az n) (hn : sc 11 ≤ n) (h18 : sc 18 = 0) : ri2 sc ai al az := ⟨hs, ⟨h1, fun m h0 h2 => hm m h0 (by omega)⟩, Or.inl h18⟩
end PB
section PC
variable {X Y : List Nat} {sc sc1 : Nat → Int} {ai ai1 : Nat → Nat → Int} {al al1 : Nat → Nat → Int64} {az az1 : Nat → Nat → Int32} {n s x t : Int}
theorem gi_new (h : gi sc ai al az) (hs : 0 ≤ s) (hf : fr X Y s.toNat s.toNat sc ai al az sc1 ai1 al1 az1) (h1 : sc1 1 = sc 1) (h4 : sc1 4 = sc 4) (h8 : sc1 38 = sc 38) (hz : Y.contains 259 = false) (hk : tmok ai1) (hn : ∀ t : Nat, (t : Int) < ai1 242 s.toNat → gl (al1 243 ((60 * s).toNat + t))) : gi sc1 ai1 al1 az1 := by
  refine ⟨⟨⟨?_, ?_⟩, gd_new h.1.2 hs hf hk hn⟩, ?_, ?_⟩
  · rw [h1]; exact h.1.1.1
  · rw [h4]; exact h.1.1.2
  · rw [h8]; exact h.2.1
  · rw [hf.2.2.2.2 259 hz]; exact h.2.2
theorem gd_at2 (h : gd ai al) (hs : 0 ≤ s ∧ s < 72) (hx : x = 60 * s) (ht : 0 ≤ t ∧ t < ai 242 s.toNat) : gl (al 243 (x + t).toNat) := by
  rw [hx]
  exact gd_at h hs ht
theorem sg_put {b i : Nat} {c : Int64} (h : sg al b n) (hi : i = b + n.toNat) (h0 : 0 ≤ n) (hc : gl c) (hd : al1 = u2 al 243 i c) : sg al1 b (n + 1) := fun t ht => by
  rw [hd]
  by_cases q : b + t = i
  · rw [q, u2_s]; exact hc
  · rw [u2_o q]; exact h t (by omega)
theorem sg_at {b i : Nat} (h : sg al b n) (hi : i = b + t.toNat) (h0 : 0 ≤ t ∧ t < n) : gl (al 243 i) := by
  rw [hi]
  exact h _ (by omega)
end PC
section PD
variable {X Y : List Nat} {lo hi : Nat} {sc sc1 : Nat → Int} {ai ai1 : Nat → Nat → Int} {al al1 : Nat → Nat → Int64} {az az1 : Nat → Nat → Int32} {n n1 x : Int}
def rwx (sc : Nat → Int) (ai : Nat → Nat → Int) (al : Nat → Nat → Int64) (az : Nat → Nat → Int32) (n x : Int) : Prop := 0 ≤ x ∨ rws sc ai al az n
theorem rwx_fr (h : rwx sc ai al az n x) (hk : tmok ai) (hf : fr X Y lo hi sc ai al az sc1 ai1 al1 az1) (h1 : X.contains 1 = false) (h2 : Y.contains 239 = false) (h3 : Y.contains 240 = false) (hb : hi < lo ∨ 16 + n ≤ (lo : Int)) : rwx sc1 ai1 al1 az1 n x := h.imp id fun q => rws_fr q hk hf h1 h2 h3 hb
theorem nk_n (h : nk sc ai n) (e : n1 = n) : nk sc ai n1 := by rw [e]; exact h
theorem pk2_n (h : pk2 ai n x) (e : n1 = n) : pk2 ai n1 x := by rw [e]; exact h
def b58 (ai : Nat → Nat → Int) (x : Int) : Prop := ∀ m : Nat, (m : Int) < x → ai 261 m = 58 + (m : Int)
theorem b58_add (h : b58 ai x) (hx : 0 ≤ x) (hd : ai1 = u2 ai 261 x.toNat (58 + x)) : b58 ai1 (x + 1) := fun m hm => by
  rw [hd]
  by_cases q : m = x.toNat
  · rw [q, u2_s]; omega
  · rw [u2_o q]; exact h m (by omega)
end PD
theorem pk2_x {ai : Nat → Nat → Int} {n x y : Int} (h : pk2 ai n x) (e : y ≤ x) : pk2 ai n y := fun s hs => h s (by omega)
