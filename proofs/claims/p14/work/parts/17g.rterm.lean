section TM5
variable {V : Nat → Int} {nv n m n1 m1 q q2 t t2 : Int} {K F K1 F1 K' C' : Nat → Int64} {O N : List (Int64 × Int64)} {w : Int32} {v : Int64}
theorem pr5_c1 (h : pr5 V nv n K F m O) (hO : onto V nv) (h0 : 0 ≤ nv ∧ nv ≤ 8) (hw : val nv.toNat w) (hl : O = ls (fun j => (K' j, C' j)) m.toNat) {j : Nat} (hj : (j : Int) < n) (e : K j = kof V w nv.toNat) : ∃ i : Nat, (i : Int) < m ∧ K' i = kof idv w 8 ∧ C' i = F j := by
  obtain ⟨a1, a2, a3, a4, a5⟩ := h
  have h1 : (w, F j) ∈ (ls (fun t => (K t, F t)) n.toNat).map (wrd V nv) := List.mem_map.mpr ⟨(K j, F j), (ls_mem _).mpr ⟨j, by omega, rfl⟩, by show (pof V (K j) nv.toNat, F j) = _; rw [e, cw hO h0 hw]⟩
  obtain ⟨x, hx, ex⟩ := List.mem_map.mp (a5.subset h1)
  obtain ⟨w2, hw2, e2⟩ := a4 x hx
  have e3 : pof idv x.1 8 = w := congrArg Prod.fst ex
  have e4 : x.2 = F j := congrArg Prod.snd ex
  rw [e2, rw_id] at e3
  rw [hl] at hx
  obtain ⟨i, hi, ei⟩ := (ls_mem _).mp hx
  refine ⟨i, by omega, ?_, ?_⟩
  · have : K' i = x.1 := congrArg Prod.fst ei
    rw [this, e2, e3]
  · have : C' i = x.2 := congrArg Prod.snd ei
    rw [this, e4]
theorem pr5_c2 (h : pr5 V nv n K F m O) (hO : onto V nv) (h0 : 0 ≤ nv ∧ nv ≤ 8) (hl : O = ls (fun j => (K' j, C' j)) m.toNat) {i : Nat} (hi : (i : Int) < m) (e : K' i = kof idv w 8) : ∃ j : Nat, (j : Int) < n ∧ K j = kof V w nv.toNat ∧ F j = C' i := by
  obtain ⟨a1, a2, a3, a4, a5⟩ := h
  have h1 : (w, C' i) ∈ O.map rwd := List.mem_map.mpr ⟨(K' i, C' i), by rw [hl]; exact (ls_mem _).mpr ⟨i, by omega, rfl⟩, by show (pof idv (K' i) 8, C' i) = _; rw [e, rw_id]⟩
  obtain ⟨x, hx, ex⟩ := List.mem_map.mp (a5.symm.subset h1)
  obtain ⟨j, hj, ej⟩ := (ls_mem _).mp hx
  have e3 : pof V x.1 nv.toNat = w := congrArg Prod.fst ex
  have e4 : x.2 = C' i := congrArg Prod.snd ex
  have e5 : K j = x.1 := congrArg Prod.fst ej
  have e6 : F j = x.2 := congrArg Prod.snd ej
  obtain ⟨w2, hw2, e7⟩ := a2 j (by omega)
  rw [← e5, e7, cw hO h0 hw2] at e3
  exact ⟨j, by omega, by rw [e7, e3], by rw [e6, e4]⟩
theorem sst_u (h : sst K n) {i j : Nat} (hi : (i : Int) < n) (hj : (j : Int) < n) (e : K i = K j) : i = j := by
  by_cases q : i < j
  · have := h i j q hj
    rw [e] at this
    omega
  · by_cases q2 : j < i
    · have := h j i q2 hi
      rw [e] at this
      omega
    · omega
theorem adt_k (ha : adt n K (kof V w nv.toNat) t) (hs : sst K n) {j : Nat} (hj : (j : Int) < n) (e : K j = kof V w nv.toNat) : t < n ∧ K t.toNat = kof V w nv.toNat ∧ j = t.toNat := by
  obtain ⟨h1, h2, h3⟩ := ha
  have g1 : ¬ (j : Int) < t := fun z => by
    have := h2 j z
    rw [e] at this
    omega
  have g2 : t < n := by omega
  by_cases q : j = t.toNat
  · exact ⟨g2, by rw [← q]; exact e, q⟩
  · have g3 := hs t.toNat j (by omega) hj
    have g4 := h3 g2
    rw [e] at g3
    omega
theorem fnd_k (hf : fnd K' m (kof idv w 8) t2) {i : Nat} (hi : (i : Int) < m) (e : K' i = kof idv w 8) : t2 < m := by
  obtain ⟨h1, h2, h3⟩ := hf
  by_cases q : t2 < m
  · exact q
  · exact absurd e (h2 i (by omega))
/-- a term that was not there -/
theorem pr5_put (h : pr5 V nv n K F m O) (hO : onto V nv) (h0 : 0 ≤ nv ∧ nv ≤ 8) (hn : 0 ≤ n) (hw : val nv.toNat w) (ha : adt n K (kof V w nv.toNat) t) (hno : ¬ (t < n ∧ K t.toNat = kof V w nv.toNat)) (hK : K1 = vp_updL (va_cpy K K t.toNat (t + 1).toNat (n - t).toNat) t.toNat (kof V w nv.toNat)) (hF : F1 = vp_updL (va_cpy F F t.toNat (t + 1).toNat (n - t).toNat) t.toNat v) (hN : N.Perm ((kof idv w 8, v) :: O)) : pr5 V nv (n + 1) K1 F1 (m + 1) N := by
  obtain ⟨a1, a2, a3, a4, a5⟩ := h
  obtain ⟨h1, h2, h3⟩ := ha
  have k0 : ∀ j : Nat, (j : Int) < t → K1 j = K j ∧ F1 j = F j := fun j hj => by
    rw [hK, hF, up_o (by omega), up_o (by omega)]
    unfold va_cpy
    rw [if_neg (by omega), if_neg (by omega)]
    exact ⟨rfl, rfl⟩
  have k1 : K1 t.toNat = kof V w nv.toNat ∧ F1 t.toNat = v := by rw [hK, hF, up_s, up_s]; exact ⟨rfl, rfl⟩
  have k2 : ∀ j : Nat, t ≤ (j : Int) → (j : Int) < n → K1 (j + 1) = K j ∧ F1 (j + 1) = F j := fun j hj hj2 => by
    rw [hK, hF, up_o (by omega), up_o (by omega)]
    unfold va_cpy
    rw [if_pos (by omega), if_pos (by omega), show t.toNat + (j + 1 - (t + 1).toNat) = j by omega]
    exact ⟨rfl, rfl⟩
  have hlt : ∀ j : Nat, t ≤ (j : Int) → (j : Int) < n → (K j).toInt < (kof V w nv.toNat).toInt := fun j hj hj2 => by
    have g1 := h3 (by omega)
    have g2 : (K t.toNat).toInt ≠ (kof V w nv.toNat).toInt := fun e => hno ⟨by omega, Int64.toInt_inj.mp e⟩
    by_cases q : j = t.toNat
    · rw [q]; omega
    · have := a3 t.toNat j (by omega) hj2
      omega
  have hp : (ls (fun t => (K1 t, F1 t)) (n + 1).toNat).Perm ((kof V w nv.toNat, v) :: ls (fun t => (K t, F t)) n.toNat) := by
    rw [show (n + 1).toNat = n.toNat + 1 by omega]
    exact ls_ins2 (j := t.toNat) (fun j hj => by rw [(k0 j (by omega)).1, (k0 j (by omega)).2]) (by rw [k1.1, k1.2]) (fun j g1 g2 => by rw [(k2 j (by omega) (by omega)).1, (k2 j (by omega) (by omega)).2]) (by omega)
  refine ⟨by omega, fun j hj => ?_, fun i j hij hj => ?_, fun x hx => ?_, ?_⟩
  · by_cases g1 : (j : Int) < t
    · rw [(k0 j g1).1]; exact a2 j (by omega)
    · by_cases g2 : j = t.toNat
      · rw [g2, k1.1]; exact ⟨w, hw, rfl⟩
      · have := (k2 (j - 1) (by omega) (by omega)).1
        rw [show j - 1 + 1 = j by omega] at this
        rw [this]; exact a2 (j - 1) (by omega)
  · by_cases g1 : (j : Int) < t
    · rw [(k0 j g1).1, (k0 i (by omega)).1]; exact a3 i j hij (by omega)
    · by_cases g2 : j = t.toNat
      · rw [g2, k1.1, (k0 i (by omega)).1]; exact h2 i (by omega)
      · have e1 := (k2 (j - 1) (by omega) (by omega)).1
        rw [show j - 1 + 1 = j by omega] at e1
        rw [e1]
        by_cases g3 : (i : Int) < t
        · rw [(k0 i g3).1]; exact a3 i (j - 1) (by omega) (by omega)
        · by_cases g4 : i = t.toNat
          · rw [g4, k1.1]; exact hlt (j - 1) (by omega) (by omega)
          · have e2 := (k2 (i - 1) (by omega) (by omega)).1
            rw [show i - 1 + 1 = i by omega] at e2
            rw [e2]; exact a3 (i - 1) (j - 1) (by omega) (by omega)
  · rcases List.mem_cons.mp (hN.subset hx) with e | e
    · rw [e]; exact ⟨w, hw, rfl⟩
    · exact a4 x e
  · have g1 := hp.map (wrd V nv)
    have g2 := hN.map rwd
    have e1 : wrd V nv (kof V w nv.toNat, v) = (w, v) := by show (pof V (kof V w nv.toNat) nv.toNat, v) = _; rw [cw hO h0 hw]
    have e2 : rwd (kof idv w 8, v) = (w, v) := by show (pof idv (kof idv w 8) 8, v) = _; rw [rw_id]
    rw [List.map_cons, e1] at g1
    rw [List.map_cons, e2] at g2
    exact (g1.trans (List.Perm.cons _ a5)).trans g2.symm
/-- another coefficient -/
theorem pr5_upd (h : pr5 V nv n K F m O) (hO : onto V nv) (h0 : 0 ≤ nv ∧ nv ≤ 8) (hw : val nv.toNat w) (ht : 0 ≤ t ∧ t < n) (hk : K t.toNat = kof V w nv.toNat) {c c0 : Int64} (hc : F t.toNat = c0) (hF : F1 = vp_updL F t.toNat c) {R : List (Int64 × Int64)} (hN : N.Perm ((kof idv w 8, c) :: R)) (hR : O.Perm ((kof idv w 8, c0) :: R)) : pr5 V nv n K F1 m N := by
  obtain ⟨a1, a2, a3, a4, a5⟩ := h
  obtain ⟨S, p1, p2⟩ := ls_upd (g := fun t => (K t, F t)) (h := fun t => (K t, F1 t)) (j := t.toNat) (x := (K t.toNat, c)) (by show (K t.toNat, F1 t.toNat) = _; rw [hF, up_s]) (fun j hj => by show (K j, F1 j) = (K j, F j); rw [hF, up_o hj]) n.toNat (by omega)
  have e1 : ∀ z, wrd V nv (kof V w nv.toNat, z) = (w, z) := fun z => by show (pof V (kof V w nv.toNat) nv.toNat, z) = _; rw [cw hO h0 hw]
  have e2 : ∀ z, rwd (kof idv w 8, z) = (w, z) := fun z => by show (pof idv (kof idv w 8) 8, z) = _; rw [rw_id]
  have q1 := p1.map (wrd V nv)
  have p2 : (ls (fun t => (K t, F t)) n.toNat).Perm ((K t.toNat, F t.toNat) :: S) := p2
  have q2 := p2.map (wrd V nv)
  rw [hk, List.map_cons, e1] at q1
  rw [hk, hc, List.map_cons, e1] at q2
  have q3 := hR.map rwd
  have q4 := hN.map rwd
  rw [List.map_cons, e2] at q3 q4
  have q5 := List.Perm.cons_inv ((q2.symm.trans a5).trans q3)
  refine ⟨a1, a2, a3, fun x hx => ?_, (q1.trans (List.Perm.cons _ q5)).trans q4.symm⟩
  rcases List.mem_cons.mp (hN.subset hx) with e | e
  · rw [e]; exact ⟨w, hw, rfl⟩
  · exact a4 x (hR.symm.subset (List.mem_cons_of_mem _ e))
/-- a term goes -/
theorem pr5_del (h : pr5 V nv n K F m O) (hO : onto V nv) (h0 : 0 ≤ nv ∧ nv ≤ 8) (hw : val nv.toNat w) (ht : 0 ≤ t ∧ t < n) (hk : K t.toNat = kof V w nv.toNat) {c0 : Int64} (hc : F t.toNat = c0) (hK : K1 = va_cpy K K (t + 1).toNat t.toNat (n - t - 1).toNat) {G : Nat → Int64} (hG : ∀ j, j ≠ t.toNat → G j = F j) (hF : F1 = va_cpy G G (t + 1).toNat t.toNat (n - t - 1).toNat) (hR : O.Perm ((kof idv w 8, c0) :: N)) : pr5 V nv (n - 1) K1 F1 (m - 1) N := by
  obtain ⟨a1, a2, a3, a4, a5⟩ := h
  have k0 : ∀ j : Nat, (j : Int) < t → K1 j = K j ∧ F1 j = F j := fun j hj => by
    rw [hK, hF]
    unfold va_cpy
    rw [if_neg (by omega), if_neg (by omega), hG j (by omega)]
    exact ⟨rfl, rfl⟩
  have k2 : ∀ j : Nat, t ≤ (j : Int) → (j : Int) < n - 1 → K1 j = K (j + 1) ∧ F1 j = F (j + 1) := fun j hj hj2 => by
    rw [hK, hF]
    unfold va_cpy
    rw [if_pos (by omega), if_pos (by omega), show (t + 1).toNat + (j - t.toNat) = j + 1 by omega, hG _ (by omega)]
    exact ⟨rfl, rfl⟩
  have hp : (ls (fun t => (K t, F t)) n.toNat).Perm ((K t.toNat, F t.toNat) :: ls (fun t => (K1 t, F1 t)) (n - 1).toNat) := by
    rw [show n.toNat = (n - 1).toNat + 1 by omega]
    exact ls_ins2 (j := t.toNat) (fun j hj => by rw [(k0 j (by omega)).1, (k0 j (by omega)).2]) rfl (fun j g1 g2 => by rw [(k2 j (by omega) (by omega)).1, (k2 j (by omega) (by omega)).2]) (by omega)
  refine ⟨by omega, fun j hj => ?_, fun i j hij hj => ?_, fun x hx => a4 x (hR.symm.subset (List.mem_cons_of_mem _ hx)), ?_⟩
  · by_cases g1 : (j : Int) < t
    · rw [(k0 j g1).1]; exact a2 j (by omega)
    · rw [(k2 j (by omega) hj).1]; exact a2 (j + 1) (by omega)
  · by_cases g1 : (j : Int) < t
    · rw [(k0 j g1).1, (k0 i (by omega)).1]; exact a3 i j hij (by omega)
    · rw [(k2 j (by omega) hj).1]
      by_cases g2 : (i : Int) < t
      · rw [(k0 i g2).1]; exact a3 i (j + 1) (by omega) (by omega)
      · rw [(k2 i (by omega) (by omega)).1]; exact a3 (i + 1) (j + 1) (by omega) (by omega)
  · have e1 : ∀ z, wrd V nv (kof V w nv.toNat, z) = (w, z) := fun z => by show (pof V (kof V w nv.toNat) nv.toNat, z) = _; rw [cw hO h0 hw]
    have e2 : ∀ z, rwd (kof idv w 8, z) = (w, z) := fun z => by show (pof idv (kof idv w 8) 8, z) = _; rw [rw_id]
    have q2 := hp.map (wrd V nv)
    rw [hk, hc, List.map_cons, e1] at q2
    have q3 := hR.map rwd
    rw [List.map_cons, e2] at q3
    exact List.Perm.cons_inv ((q2.symm.trans a5).trans q3)
end TM5
