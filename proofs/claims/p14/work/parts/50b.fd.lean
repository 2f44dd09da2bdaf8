/-! What coefficient, powers and value answer of a sum; which sum is named. -/
def coF (l : Po) (t : Int) : Int64 := if 0 ≤ t ∧ t < (l.length : Int) then (l.getD t.toNat (0, 0)).2 else Int64.ofNat 0
def pwF (V : Nat → Int) (nv : Nat) (l : Po) (t : Int) : Int32 := if 0 ≤ t ∧ t < (l.length : Int) then pof V (Int64.ofNat (l.getD t.toNat (0, 0)).1) nv else vz (-1)
def vuF (pt : Nat → Int64) (V : Nat → Int) (nv : Nat) (l : Po) : Int64 := vlF pt V nv (fun t => Int64.ofNat (l.getD t (0, 0)).1) (fun t => (l.getD t (0, 0)).2) l.length
def fdF (p : Int) (U : Nat → Po) (m : Int) (S : Nat → Po × Nat × Nat) (rm cd : Po) (i1 i2 : Int) : Po := if i1 = 0 then (if 0 ≤ i2 ∧ i2 < p then U i2.toNat else []) else if i1 = 1 then (if 0 ≤ i2 ∧ i2 < m then (S i2.toNat).1 else []) else if i1 = 2 then (if 0 ≤ i2 ∧ i2 < m then ldL (S i2.toNat).1 (S i2.toNat).2.1 (S i2.toNat).2.2 else []) else if i1 = 3 then (if i2 = 0 then rm else []) else if i1 = 4 then (if i2 = 0 then cd else []) else []
section FD
variable {p m i1 i2 : Int} {U : Nat → Po} {S : Nat → Po × Nat × Nat} {rm cd : Po}
theorem fd0 (h : i1 = 0) (h1 : 0 ≤ i2 ∧ i2 < p) : fdF p U m S rm cd i1 i2 = U i2.toNat := by
  unfold fdF; rw [if_pos h, if_pos h1]
theorem fd1 (h : i1 = 1) (h1 : 0 ≤ i2 ∧ i2 < m) : fdF p U m S rm cd i1 i2 = (S i2.toNat).1 := by
  unfold fdF; rw [if_neg (by omega), if_pos h, if_pos h1]
theorem fd2 (h : i1 = 2) (h1 : 0 ≤ i2 ∧ i2 < m) : fdF p U m S rm cd i1 i2 = ldL (S i2.toNat).1 (S i2.toNat).2.1 (S i2.toNat).2.2 := by
  unfold fdF; rw [if_neg (by omega), if_neg (by omega), if_pos h, if_pos h1]
theorem fd3 (h : i1 = 3) (h1 : i2 = 0) : fdF p U m S rm cd i1 i2 = rm := by
  unfold fdF; rw [if_neg (by omega), if_neg (by omega), if_neg (by omega), if_pos h, if_pos h1]
theorem fd4 (h : i1 = 4) (h1 : i2 = 0) : fdF p U m S rm cd i1 i2 = cd := by
  unfold fdF; rw [if_neg (by omega), if_neg (by omega), if_neg (by omega), if_neg (by omega), if_pos h, if_pos h1]
theorem fdn (h0 : ¬ (i1 = 0 ∧ 0 ≤ i2 ∧ i2 < p)) (h1 : ¬ (i1 = 1 ∧ 0 ≤ i2 ∧ i2 < m)) (h2 : ¬ (i1 = 2 ∧ 0 ≤ i2 ∧ i2 < m)) (h3 : i1 = 3 → i2 = 0 → rm = []) (h4 : i1 = 4 → i2 = 0 → cd = []) : fdF p U m S rm cd i1 i2 = [] := by
  unfold fdF
  by_cases a0 : i1 = 0
  · rw [if_pos a0, if_neg (fun z => h0 ⟨a0, z⟩)]
  rw [if_neg a0]
  by_cases a1 : i1 = 1
  · rw [if_pos a1, if_neg (fun z => h1 ⟨a1, z⟩)]
  rw [if_neg a1]
  by_cases a2 : i1 = 2
  · rw [if_pos a2, if_neg (fun z => h2 ⟨a2, z⟩)]
  rw [if_neg a2]
  by_cases a3 : i1 = 3
  · rw [if_pos a3]
    by_cases b : i2 = 0
    · rw [if_pos b]; exact h3 a3 b
    · rw [if_neg b]
  rw [if_neg a3]
  by_cases a4 : i1 = 4
  · rw [if_pos a4]
    by_cases b : i2 = 0
    · rw [if_pos b]; exact h4 a4 b
    · rw [if_neg b]
  rw [if_neg a4]
/-- the initial of a good sum is a good one -/
theorem gk_ld {nv p d : Nat} {f : Po} (hg : gk nv f) (hp : p < nv) (hn : nv ≤ 8) : gk nv (ldL f p d) := by
  have hs : ∀ x, x ∈ lds f p d → x ∈ f ∧ dgt x.1 p = d := fun x hx => by
    have h1 := List.mem_filter.mp hx
    exact ⟨h1.1, by simpa using h1.2⟩
  have hle : ∀ x, x ∈ lds f p d → d * 256 ^ p ≤ x.1 := fun x hx => (dgt_sub (gk_dg hg (hs x hx).1).1 hp (Nat.le_of_eq (hs x hx).2.symm)).1
  refine ⟨⟨?_, fun x hx => ?_⟩, ⟨?_, fun x hx => ⟨?_, fun q hq => ?_⟩⟩, fun x hx => (ldL_dg hg hp hn hx).1.1⟩
  · unfold ldL
    rw [List.pairwise_map]
    have h1 : (lds f p d).Pairwise (fun x y => y.1 < x.1) := hg.1.1.filter _
    refine List.Pairwise.imp_of_mem ?_ h1
    intro x y hx hy hlt
    have a1 := hle x hx
    have a2 := hle y hy
    show y.1 - d * 256 ^ p < x.1 - d * 256 ^ p
    omega
  · obtain ⟨z, hz, rfl⟩ := List.mem_map.mp hx
    exact hg.1.2 z (hs z hz).1
  · unfold ldL
    rw [List.length_map]
    exact Nat.le_trans (List.length_filter_le _ _) hg.2.1.1
  · obtain ⟨z, hz, rfl⟩ := List.mem_map.mp hx
    exact (hg.2.1.2 z (hs z hz).1).1
  · have h1 := (ldL_dg hg hp hn hx).1
    by_cases q2 : q < nv
    · exact h1.2 q q2
    · rw [dgt_hi h1.1 (by omega)]
      exact Nat.zero_le _
theorem gk_fd {nv : Nat} (hn : nv ≤ 8) (hU : ∀ i : Nat, (i : Int) < p → gk nv (U i)) (hS : ∀ j : Nat, (j : Int) < m → gk nv (S j).1 ∧ (S j).2.1 < nv) (hr : gk nv rm) (hc : gk nv cd) : gk nv (fdF p U m S rm cd i1 i2) := by
  unfold fdF
  split
  · split
    · rename_i h
      exact hU _ (by omega)
    · exact gk_nil
  · split
    · split
      · rename_i h
        exact (hS _ (by omega)).1
      · exact gk_nil
    · split
      · split
        · rename_i h
          have h9 := hS i2.toNat (by omega)
          exact gk_ld h9.1 h9.2 hn
        · exact gk_nil
      · split
        · split
          · exact hr
          · exact gk_nil
        · split
          · split
            · exact hc
            · exact gk_nil
          · exact gk_nil
end FD
section AN
variable {Z Z1 Z2 : Nat → Nat → Int} {al al1 al2 al3 : Nat → Nat → Int64} {ai : Nat → Nat → Int} {a a0 a1 : Nat} {l : Po} {t x5 : Int} {V : Nat → Int} {nv : Nat} {pt : Nat → Int64}
theorem gD_x {i : Nat} {x : Nat × Int64} (h : l[i]? = some x) : l.getD i (0, 0) = x := by
  rw [List.getD_eq_getElem?_getD, h]; rfl
theorem pL_at (h : pL Z al a l) {i : Nat} (hi : i < l.length) : al (a + 1) i = Int64.ofNat (l.getD i (0, 0)).1 ∧ al (a + 2) i = (l.getD i (0, 0)).2 := by
  obtain ⟨x, h8, h9, _⟩ := ls_at h.2 hi
  rw [List.drop_eq_getElem_cons hi] at h8
  have h6 : l[i] = x := (List.cons.inj h8).1
  have h7 : l.getD i (0, 0) = x := gD_x (by rw [List.getElem?_eq_getElem hi, h6])
  rw [h7]
  exact ⟨congrArg Prod.fst h9, congrArg Prod.snd h9⟩
theorem co_o (h : ¬ (0 ≤ t ∧ t < (l.length : Int))) : coF l t = Int64.ofNat 0 := by unfold coF; rw [if_neg h]
theorem pw_o (h : ¬ (0 ≤ t ∧ t < (l.length : Int))) : pwF V nv l t = vz (-1) := by unfold pwF; rw [if_neg h]
theorem co_n (e : l = []) : coF l t = Int64.ofNat 0 := co_o (by rw [e]; show ¬ (0 ≤ t ∧ t < ((0 : Nat) : Int)); omega)
theorem pw_n (e : l = []) : pwF V nv l t = vz (-1) := pw_o (by rw [e]; show ¬ (0 ≤ t ∧ t < ((0 : Nat) : Int)); omega)
theorem vu_n (e : l = []) : vuF pt V nv l = Int64.ofNat 0 := by rw [e]; rfl
theorem co_c (h : pL Z al a l) (ht : 0 ≤ t ∧ t < Z a 0) : coF l t = al (a + 2) t.toNat := by
  have h1 := h.1
  unfold coF
  rw [if_pos (by omega), (pL_at h (by omega)).2]
theorem co_z (h : pL Z al a l) (ht : ¬ (0 ≤ t ∧ t < Z a 0)) : coF l t = Int64.ofNat 0 := co_o (by have h1 := h.1; omega)
theorem pw_c (h : pL Z al a l) (ht : 0 ≤ t ∧ t < Z a 0) : pwF V nv l t = pof V (al (a + 1) t.toNat) nv := by
  have h1 := h.1
  unfold pwF
  rw [if_pos (by omega), (pL_at h (by omega)).1]
theorem pw_z (h : pL Z al a l) (ht : ¬ (0 ≤ t ∧ t < Z a 0)) : pwF V nv l t = vz (-1) := pw_o (by have h1 := h.1; omega)
theorem vl_cg {n : Nat} {K F K1 F1 : Nat → Int64} : ∀ m : Nat, (∀ t, t < m → K t = K1 t ∧ F t = F1 t) → vlF pt V n K F m = vlF pt V n K1 F1 m := by
  intro m
  induction m with
  | zero => intro _; rfl
  | succ m ih =>
    intro h
    show vlF pt V n K F m + F m * vkF pt V (K m) n = vlF pt V n K1 F1 m + F1 m * vkF pt V (K1 m) n
    rw [ih fun t ht => h t (by omega), (h m (by omega)).1, (h m (by omega)).2]
theorem vu_c (h : pL Z al a l) : vuF pt V nv l = vlF pt V nv (al (a + 1)) (al (a + 2)) (Z a 0).toNat := by
  have h1 := h.1
  rw [show (Z a 0).toNat = l.length by omega]
  unfold vuF
  exact vl_cg _ fun t ht => ⟨(pL_at h ht).1.symm, (pL_at h ht).2.symm⟩
/-- the initial, as the class lays it -/
def ciL (Z : Nat → Nat → Int) (al : Nat → Nat → Int64) (a0 : Nat) (l : Po) (p d : Nat) (x5 : Int) : Prop := ∃ O : Po, pL Z al a0 O ∧ O ++ ldL (l.drop x5.toNat) p d = ldL l p d
variable {p d : Nat}
theorem ci_0 (h : Z a0 0 = 0) : ciL Z al a0 l p d 0 := ⟨[], ⟨h, rfl⟩, rfl⟩
theorem ci_n (h : ciL Z1 al1 a0 l p d x5) (hL : pL Z al a1 l) (hg : gk nv l) (hn : nv ≤ 8) (hp8 : p < 8) (h0 : 0 ≤ x5 ∧ x5 < Z a1 0) {c : Int64} (hc : c = al (a1 + 1) x5.toNat) {i4 i5 : Int} (hp : i4 = (p : Int)) (hd : i5 = (d : Int)) (hq : pw c i4 ≠ i5) : ciL Z1 al1 a0 l p d (x5 + 1) := by
  obtain ⟨O, h1, h2⟩ := h
  obtain ⟨y, e1, e2, e3, e4⟩ := fx hL h0
  rw [hc, e2, Ne, pw_lo hg hn e4 ⟨hp, hp8⟩ hd] at hq
  refine ⟨O, h1, ?_⟩
  rw [e1] at h2
  unfold ldL at h2 ⊢
  rw [ld_lo hq] at h2
  exact h2
theorem ci_y (h : ciL Z1 al1 a0 l p d x5) (hL : pL Z al a1 l) (hg : gk nv l) (hn : nv ≤ 8) (hp8 : p < nv) (h0 : 0 ≤ x5 ∧ x5 < Z a1 0) {c y3 f : Int64} (hc : c = al (a1 + 1) x5.toNat) {i4 i5 : Int} (hp : i4 = (p : Int)) (hd : i5 = (d : Int)) (hq : pw c i4 = i5) (h3 : y3 = Int64.ofNat (d * 256 ^ p)) (hf : f = al (a1 + 2) x5.toNat) (d1 : al2 = uA al1 (a0 + 1) (vp_updL (al1 (a0 + 1)) (Z1 a0 0).toNat (c - y3))) (d2 : al3 = uA al2 (a0 + 2) (vp_updL (al2 (a0 + 2)) (Z1 a0 0).toNat f)) (d3 : Z2 = u2 Z1 a0 0 (Z1 a0 0 + 1)) : ciL Z2 al3 a0 l p d (x5 + 1) := by
  obtain ⟨O, h1, h2⟩ := h
  obtain ⟨y, e1, e2, e3, e4⟩ := fx hL h0
  have hq1 := hq
  rw [hc, e2, pw_lo hg hn e4 ⟨hp, by omega⟩ hd] at hq1
  have h4 := h1.1
  refine ⟨O ++ [(y.1 - d * 256 ^ p, y.2)], ⟨by rw [d3, u2_s, List.length_append, h4]; rfl, ?_⟩, ?_⟩
  · refine ls_push (x := (y.1 - d * 256 ^ p, y.2)) h1.2 (m := (Z1 a0 0).toNat) (by omega) ?_ ?_
    · rw [d2, uA_o (by omega), d1, uA_s, ky hg e4 hp8 hn (Nat.le_of_eq hq1.symm) h3 (by rw [hc, e2])]
    · rw [d2, uA_s, d1, uA_o (by omega), hf, e3]
  · rw [e1] at h2
    unfold ldL at h2 ⊢
    rw [ld_hi hq1] at h2
    rw [List.append_assoc]
    exact h2
theorem ci_e (h : ciL Z1 al1 a0 l p d x5) (hL : pL Z al a1 l) (hx : Z a1 0 ≤ x5) : pL Z1 al1 a0 (ldL l p d) := by
  obtain ⟨O, h1, h2⟩ := h
  have h3 := hL.1
  rw [List.drop_eq_nil_of_le (by omega)] at h2
  have h2 : O ++ [] = ldL l p d := h2
  rw [List.append_nil] at h2
  rw [← h2]; exact h1
end AN
/-- the condition is laid anew when a variable moves -/
def mkA (Z : Nat → Nat → Int) (V : Nat → Int) (al al1 : Nat → Nat → Int64) : Prop := al1 226 = al 226 ∧ ∀ t : Nat, (t : Int) < Z 224 0 → al1 225 t = Int32.toInt64 (pof V (al 225 t) (Z 2 0).toNat)
def mkD (Z : Nat → Nat → Int) (V V1 : Nat → Int) (al al1 : Nat → Nat → Int64) : Prop := (ls (fun t => (al1 225 t, al1 226 t)) (Z 224 0).toNat).Perm (ls (fun t => (kof V1 (pof V (al 225 t) (Z 2 0).toNat) (Z 2 0).toNat, al 226 t)) (Z 224 0).toNat) ∧ srt (al1 225) (Z 224 0)
section MD
variable {Z : Nat → Nat → Int} {V V1 : Nat → Int} {al al1 al2 : Nat → Nat → Int64} {K F : Nat → Int64} {n x : Int}
def mk0 (al al1 : Nat → Nat → Int64) : Prop := al1 225 = al 225 ∧ al1 226 = al 226
theorem mk0_0 : mk0 al al := ⟨rfl, rfl⟩
theorem mk0_s {i : Nat} (h : mk0 al al1) (hi : i < 16) (e : al2 = uP al1 (7 + 3 * i) K F) : mk0 al al2 := ⟨by rw [e, uP_o (by omega) (by omega)]; exact h.1, by rw [e, uP_o (by omega) (by omega)]; exact h.2⟩
theorem mkA_s (h : mk0 al al1) (hK : ∀ j : Nat, (j : Int) < Z 224 0 → K j = Int32.toInt64 (pof V (al1 225 j) (Z 2 0).toNat)) (e : al2 = uP al1 224 K (al1 226)) : mkA Z V al al2 := ⟨by rw [e, show (226 : Nat) = 224 + 2 from rfl, uP_2]; exact h.2, fun t ht => by rw [e, show (225 : Nat) = 224 + 1 from rfl, uP_1, hK t ht, h.1]⟩
theorem mkA_o {i : Nat} (h : mkA Z V al al1) (hi : i < 16) (e : al2 = uP al1 (7 + 3 * i) K F) : mkA Z V al al2 := ⟨by rw [e, uP_o (by omega) (by omega)]; exact h.1, fun t ht => by rw [e, uP_o (by omega) (by omega)]; exact h.2 t ht⟩
theorem mkD_s (h : mkA Z V al al1) (hP : (ls (fun t => (K t, F t)) (Z 224 0).toNat).Perm (ls (fun t => (kof V1 (al1 225 t).toInt32 (Z 2 0).toNat, al1 226 t)) (Z 224 0).toNat)) (hS : srt K (Z 224 0)) (e : al2 = uP al1 224 K F) : mkD Z V V1 al al2 := by
  have e1 : al2 225 = K := by rw [e]; exact uP_1
  have e2 : al2 226 = F := by rw [e]; exact uP_2
  refine ⟨?_, by rw [e1]; exact hS⟩
  have e3 : ls (fun t => (kof V1 (al1 225 t).toInt32 (Z 2 0).toNat, al1 226 t)) (Z 224 0).toNat = ls (fun t => (kof V1 (pof V (al 225 t) (Z 2 0).toNat) (Z 2 0).toNat, al 226 t)) (Z 224 0).toNat := ls_cg _ fun t ht => by
    rw [h.2 t (by omega), h.1, Int32.toInt32_toInt64]
  rw [e1, e2, ← e3]
  exact hP
end MD
theorem osx_c {sc : Nat → Int} {ai : Nat → Nat → Int} {al al1 al2 : Nat → Nat → Int64} {x n : Int} (h : osI sc ai al al1 x) (hf : sfr al1 al2 4080) (hs : sorS sc ai al1 al2 68) (hK : tmok ai) (hx : n = x ∧ 0 ≤ x ∧ x ≤ 16) : (∀ a, a ≠ 243 → a ≠ 244 → al2 a = al a) ∧ (∀ i : Nat, (i : Int) < n → sorS sc ai al al2 i) ∧ sorS sc ai al al2 68 := ⟨(osx_e h hf hK hx).1, (osx_e h hf hK hx).2, sorS_pre hs (fun t ht => ⟨h.2.2 243 _ (by omega), h.2.2 244 _ (by omega)⟩) (hK.1 68).2⟩
/-- the slot of the condition stands -/
def s68 (ai ai1 : Nat → Nat → Int) (al al1 : Nat → Nat → Int64) : Prop := ai1 242 68 = ai 242 68 ∧ ∀ t, t < 60 → al1 243 (60 * 68 + t) = al 243 (60 * 68 + t) ∧ al1 244 (60 * 68 + t) = al 244 (60 * 68 + t)
section S68
variable {sc sc1 : Nat → Int} {ai ai1 ai2 : Nat → Nat → Int} {al al1 al2 : Nat → Nat → Int64} {az az1 : Nat → Nat → Int32} {V : Nat → Nat} {nv i a k : Nat} {l : Po} {v : Int} {y : Int64}
theorem s68_0 : s68 ai ai al al := ⟨rfl, fun _ _ => ⟨rfl, rfl⟩⟩
theorem s68_cp (h : s68 ai ai1 al al1) (hc : cpQ V nv ai1 ai2 al1 al2 i l) (hi : i ≠ 68) : s68 ai ai2 al al2 := ⟨by rw [hc.1, u2_o (Ne.symm hi)]; exact h.1, fun t ht => ⟨by rw [hc.2.1.2 243 _ (by omega)]; exact (h.2 t ht).1, by rw [hc.2.1.2 244 _ (by omega)]; exact (h.2 t ht).2⟩⟩
theorem s68_r (h : s68 ai ai1 al al1) (hr : rH sc sc1 ai1 ai2 al1 al2 az az1) : s68 ai ai2 al al2 := ⟨by rw [hr.2.1.2 68 (by decide) (by decide)]; exact h.1, fun t ht => ⟨by rw [hr.2.2.1.2 243 _ (Or.inl rfl) (by omega)]; exact (h.2 t ht).1, by rw [hr.2.2.1.2 244 _ (Or.inr rfl) (by omega)]; exact (h.2 t ht).2⟩⟩
theorem s68_a (h : s68 ai ai1 al al1) (h1 : a ≠ 242) (e : ai2 = u2 ai1 a k v) : s68 ai ai2 al al1 := ⟨by rw [e, u2_af (Ne.symm h1)]; exact h.1, h.2⟩
theorem s68_l (h : s68 ai ai1 al al1) (h1 : a ≠ 243) (h2 : a ≠ 244) (e : al2 = u2 al1 a k y) : s68 ai ai1 al al2 := ⟨h.1, fun t ht => ⟨by rw [e, u2_af (Ne.symm h1)]; exact (h.2 t ht).1, by rw [e, u2_af (Ne.symm h2)]; exact (h.2 t ht).2⟩⟩
end S68
