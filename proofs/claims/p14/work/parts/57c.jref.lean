/-! The reference's calls: what they leave of jR. -/
section JY
variable {V V1 : Nat → Int} {F H F1 H1 : Nat → Int32} {L : Nat} {xs : Nat → Int32} {vh v1 : vm_H} {n p n2 p2 t : Int} {g : Int64} {u : D5u} {w : D5w} {U : Nat → Po} {T T1 : T7} {o : Option S7} {sc sc1 : Nat → Int} {ai ai1 : Nat → Nat → Int} {al al1 : Nat → Nat → Int64} {az az1 : Nat → Nat → Int32}
theorem ri_on (hK : tmok ai) (hR : ri2 sc ai al az) : onto (ai 240) (sc 1) := ⟨hK.2, hR.1⟩
def sl7 (ai ai1 : Nat → Nat → Int) (al al1 : Nat → Nat → Int64) (s : Nat) : Prop := ai1 242 s = ai 242 s ∧ ∀ t, t < 60 → al1 243 (60 * s + t) = al 243 (60 * s + t) ∧ al1 244 (60 * s + t) = al 244 (60 * s + t)
theorem c7Q_f {V : Nat → Nat} {nv a : Nat} {l : Po} (h : c7Q V nv ai al a l) (hK : tmok ai) (e : sl7 ai ai1 al al1 a) : c7Q V nv ai1 al1 a l := ⟨qL_cg h.1 e.1 fun t ht => by
  have h9 := (hK.1 a).2
  exact ⟨(e.2 t (by omega)).2, (e.2 t (by omega)).1⟩, h.2⟩
theorem tQ_s {V : Nat → Nat} {nv : Nat} (h : tQ V nv sc ai al T) (e : ∀ j, 12 ≤ j ∧ j ≤ 17 → sc1 j = sc j) : tQ V nv sc1 ai al T := by
  unfold tQ at h ⊢
  rw [e 12 (by omega), e 13 (by omega), e 14 (by omega), e 15 (by omega), e 16 (by omega), e 17 (by omega)]
  exact h
theorem tQ_f {V : Nat → Nat} {nv : Nat} (h : tQ V nv sc ai al T) (hK : tmok ai) (e : ∀ j, 12 ≤ j ∧ j ≤ 17 → sc1 j = sc j) (e8 : sl7 ai ai1 al al1 68) (e7 : sl7 ai ai1 al al1 67) (ep : al1 245 = al 245) : tQ V nv sc1 ai1 al1 T := by
  obtain ⟨k1, k2, k3, k4⟩ := tQ_s (sc1 := sc1) h e
  exact ⟨k1, k2.imp id (fun h => ⟨h.1, c7Q_f h.2 hK e8⟩), k3.imp id (fun h => ⟨h.1, c7Q_f h.2 hK e7⟩), by rw [ep]; exact k4⟩
theorem tQ_0 {V : Nat → Nat} {nv : Nat} (h : tQ V nv sc ai al T) (hK : tmok ai) (e : ∀ j, 13 ≤ j ∧ j ≤ 17 → sc1 j = sc j) (e12 : sc1 12 = 0) (e8 : sl7 ai ai1 al al1 68) (ep : al1 245 = al 245) : tQ V nv sc1 ai1 al1 (fgT T) := by
  obtain ⟨k1, k2, k3, k4⟩ := h
  refine ⟨?_, ?_, Or.inl ⟨e12, rfl⟩, by rw [ep]; exact k4⟩
  · rw [e 14 (by omega), e 15 (by omega), e 16 (by omega), e 17 (by omega)]
    exact k1
  · rw [e 13 (by omega)]
    exact k2.imp id (fun h => ⟨h.1, c7Q_f h.2 hK e8⟩)
theorem tQ_m {V V1 : Nat → Nat} {nv nv1 : Nat} {c : Po} (h : tQ V nv sc ai al T) (e : ∀ j, 13 ≤ j ∧ j ≤ 17 → sc1 j = sc j) (e12 : sc1 12 = 0) (e8 : (sc 13 = 0 ∧ c = []) ∨ (sc 13 = 1 ∧ c7Q V1 nv1 ai1 al1 68 c)) (ep : al1 245 = al 245) : tQ V1 nv1 sc1 ai1 al1 (fgC T c) := by
  obtain ⟨k1, k2, k3, k4⟩ := h
  refine ⟨?_, ?_, Or.inl ⟨e12, rfl⟩, by rw [ep]; exact k4⟩
  · rw [e 14 (by omega), e 15 (by omega), e 16 (by omega), e 17 (by omega)]
    exact k1
  · rw [e 13 (by omega)]
    exact e8
/-- a variable more -/
theorem c7Q_n {V : Nat → Int} {n : Int} {a : Nat} {l : Po} (h : c7Q (vO V) n.toNat ai al a l) (hO : onto V n) (h0 : 0 ≤ n ∧ n < 8) (e : ai1 242 = ai 242) : c7Q (vO (u1 V n.toNat n)) (n + 1).toNat ai1 al a l := by
  refine ⟨⟨by rw [e]; exact h.1.1, ?_⟩, gk_mono h.2 (by omega)⟩
  rw [h.1.2]
  refine List.map_congr_left fun x hx => ?_
  show (Int64.ofNat (tr (vO V) n.toNat x.1), x.2) = (Int64.ofNat (tr (vO (u1 V n.toNat n)) (n + 1).toNat x.1), x.2)
  rw [tr_nv hO h0 (h.2.2.2 x hx)]
theorem up_u1 {f : Nat → Int64} {i : Nat} {v : Int64} : u1 f i v = vp_updL f i v := by
  funext j
  by_cases e : j = i
  · subst e
    rw [u1_s, up_s]
  · rw [u1_o e, up_o e]
theorem stQ_f {V : Nat → Nat} {nv : Nat} (h : stQ V nv sc ai al o) (e10 : sc1 10 = sc 10) (e11 : sc1 11 = sc 11) (h8 : sc 11 ≤ 8) (hK : tmok ai) (e : ∀ s, 58 ≤ s ∧ s < 67 → ai1 242 s = ai 242 s ∧ ∀ t, t < 60 → al1 243 (60 * s + t) = al 243 (60 * s + t) ∧ al1 244 (60 * s + t) = al 244 (60 * s + t)) : stQ V nv sc1 ai1 al1 o := by
  cases o with
  | none => exact ⟨e10.trans h.1, e11.trans h.2⟩
  | some s =>
    obtain ⟨⟨h1, h2⟩, h3⟩ := h
    refine ⟨⟨e10.trans h1, e11.trans h2⟩, fun j hj => ⟨?_, (h3 j hj).2⟩⟩
    have e9 := e (58 + j) (by omega)
    have h60 := (hK.1 (58 + j)).2
    exact qL_cg (h3 j hj).1 e9.1 fun t ht => ⟨(e9.2 t (by omega)).2, (e9.2 t (by omega)).1⟩
theorem fgS_z : fgS sc 10 = 0 ∧ fgS sc 11 = 0 ∧ fgS sc 12 = 0 := by
  unfold fgS
  exact ⟨by rw [u1_o (by decide), u1_o (by decide), u1_o (by decide), u1_s], by rw [u1_o (by decide), u1_o (by decide), u1_s], by rw [u1_o (by decide), u1_s]⟩
theorem x0 : ∀ j : Nat, j = 1 ∨ (10 ≤ j ∧ j ≤ 17) → ([0] : List Nat).contains j = false := fun j hj => by
  cases j with
  | zero => omega
  | succ j => rfl
theorem jR_fr {X Y : List Nat} {lo hi : Nat} (hR : jR vh V F H T) (hM : tm sc ai al az vh vh) (hM1 : tm sc1 ai1 al1 az1 vh v1) (hK : tmok ai) (hR2 : ri2 sc ai al az) (hF : fr X Y lo hi sc ai al az sc1 ai1 al1 az1) (h1 : ∀ j : Nat, j = 1 ∨ (10 ≤ j ∧ j ≤ 17) → X.contains j = false) (h2 : Y.contains 240 = false) (h3 : Y.contains 239 = false) (h4 : Y.contains 241 = false) (h5 : Y.contains 245 = false) (hl : 69 ≤ lo ∨ hi < lo) : jR v1 V F H T := by
  obtain ⟨⟨e1, e2, e3⟩, hs, ht, hq⟩ := jRl hR hM
  have ex := fun j hj => hF.1 j (h1 j hj)
  refine ⟨sc1, ai1, al1, az1, tm_rf hM1, ⟨(hF.2.1 240 h2 (by decide)).trans e1, (hF.2.2.2.2 239 h3).trans e2, (hF.2.2.2.2 241 h4).trans e3⟩, fun i hi_ => ?_, by rw [ex 1 (by omega)]; exact tQ_f ht hK (fun j hj => ex j (by omega)) (hF.2.2.2.1 68 (by omega)) (hF.2.2.2.1 67 (by omega)) (hF.2.2.1 245 h5 (by decide) (by decide)), ?_⟩
  · have q := hF.2.2.2.1 i (by omega)
    have h0 := hK.1 i
    have e : ls (pr_ al1 (60 * i)) (ai1 242 i).toNat = ls (pr_ al (60 * i)) (ai 242 i).toNat := by
      rw [q.1]
      refine ls_cg _ fun t ht => ?_
      have q2 := q.2 t (by omega)
      unfold pr_
      rw [q2.1, q2.2]
    rw [e, ex 1 (by omega)]
    exact hs i hi_
  · rw [ex 1 (by omega)]
    exact stQ_f hq (ex 10 (by omega)) (ex 11 (by omega)) hR2.2.1.1.2 hK (fun s hs => hF.2.2.2.1 s (by omega))
/-- the first field alone -/
theorem jR_00 {v : Int} (hs : ∀ i : Nat, i < 16 → sW (ai 240) (sc 1) (ls (pr_ al (60 * i)) (ai 242 i).toNat)) (ht : tQ (vO (ai 240)) (sc 1).toNat sc ai al T) (hq : stQ (vO (ai 240)) (sc 1).toNat sc ai al T.2.2) (hM1 : tm (u1 sc 0 v) ai al az vh v1) : jR v1 (ai 240) (az 239) (az 241) T := by
  refine ⟨_, _, _, _, tm_rf hM1, ⟨rfl, rfl, rfl⟩, fun i hi => by rw [u1_o (by decide)]; exact hs i hi, by rw [u1_o (by decide)]; exact tQ_s ht (fun j hj => u1_o (by omega)), ?_⟩
  rw [u1_o (by decide)]
  revert hq
  cases T.2.2 with
  | none => exact fun h => ⟨by rw [u1_o (by decide)]; exact h.1, by rw [u1_o (by decide)]; exact h.2⟩
  | some s => exact fun h => ⟨⟨by rw [u1_o (by decide)]; exact h.1.1, by rw [u1_o (by decide)]; exact h.1.2⟩, h.2⟩
theorem J105 (hL : lI L xs vh n p n2 p2 t g u w) {i1 : Int} (hC : jC vh (vN n2 V) (fN n2 i1 F) H (tN n2 T)) (hR : jR vh V F H T) (hi_1 : 0 ≤ i1 ∧ i1 ≤ 1) : vm_Rp 1 20 105 [.ref 238, .int (vz i1)] vh (fun _ v1 => jC v1 (vN n2 V) (fN n2 i1 F) H (tN n2 T) ∧ jR v1 (vN n2 V) (fN n2 i1 F) H (tN n2 T)) := by
  obtain ⟨θ, sc, ai, al, az, fo, ⟨_, ⟨rfl, rfl⟩, _⟩, hT, hM, hK, hI, hR2, hS9, hO9, hU, hW⟩ := hL
  obtain ⟨⟨rfl, rfl, rfl⟩, hs, ht, hq⟩ := jRl hR hM
  have hb := hI.1.1
  refine (r105 hM hK hi_1 hb.1).imp fun r v1 hq1 => ?_
  obtain ⟨sc1, ai1, az1, q, hc, rfl, hK1, hM1⟩ := hq1
  refine ⟨jC_k hC hM1, ?_⟩
  unfold vN fN tN
  rcases hc with ⟨c1, _, rfl, rfl, rfl⟩ | ⟨c1, _, rfl, rfl, rfl⟩
  · rw [if_neg (by omega), if_neg (by omega), if_neg (by omega)]
    exact jR_00 hs ht hq hM1
  · rw [if_pos c1, if_pos c1, if_pos c1]
    refine ⟨_, _, _, _, tm_rf hM1, ⟨u2_u1, u2_u1, u2_af (by decide)⟩, fun i hi => ?_, by rw [fgS_o (by decide), u1_s]; exact tQ_m ht (fun j hj => by rw [fgS_o (by omega), u1_o (by omega), u1_o (by omega)]) fgS_z.2.2 (ht.2.1.imp id fun h => ⟨h.1, c7Q_n h.2 (ri_on hK hR2) (by omega) (u2_af (by decide))⟩) rfl, ⟨fgS_z.1, fgS_z.2.1⟩⟩
    rw [fgS_o (by decide), u1_s, u2_af (by decide)]
    exact sW_nv (hs i hi) (ri_on hK hR2) (by omega)
theorem J106 (hL : lI L xs vh n p n2 p2 t g u w) (hv : ∀ i, i < 16 → ∀ x, x ∈ w.2 i → ∃ w', val n2.toNat w' ∧ x.1 = kof idv w' 8) (hw0 : ∀ i : Nat, i < 16 → p2 ≤ (i : Int) → w.1 i = 0) {i1 : Int} {i2 : Int} (ho : oR n2 i1 i2 V V1 T T1) (hC : jC vh V1 F H T1) (hR : jR vh V F H T) (hi_1 : -2147483648 ≤ i1 ∧ i1 < 2147483648) (hi_2 : -2147483648 ≤ i2 ∧ i2 < 2147483648) : vm_Rp 3 77 106 [.ref 238, .int (vz i1), .int (vz i2)] vh (fun _ v1 => jC v1 V1 F H T1 ∧ jR v1 V1 F H T1) := by
  obtain ⟨θ, sc, ai, al, az, fo, ⟨_, ⟨rfl, rfl⟩, _⟩, hT, hM, hK, hI, hR2, hS9, hO9, hU, hW⟩ := hL
  obtain ⟨⟨rfl, rfl, rfl⟩, hs, ht, hq⟩ := jRl hR hM
  have hb := hI.1.1
  refine (rp_and (c106x hM hK hI hi_1 hi_2 hR2) (r106c hM hK hi_1 hi_2 hb.1 hb.2 hR2.1)).imp fun r v1 hq1 => ?_
  obtain ⟨⟨⟨sc2, ai2, al2, az2, hM2, hK2, hI2, hF2, hE2, _⟩, _⟩, sc1, ai1, al1, q, hc, rfl, hK1, hM1⟩ := hq1
  refine ⟨jC_k hC hM1, ?_⟩
  rcases hc with ⟨rfl, rfl, rfl, hc⟩ | ⟨f, f1, f2, ⟨f3, f4⟩, rfl, f5, f6, f7⟩
  · have e := oR_u ho (Or.inl ⟨⟨rfl, rfl⟩, hc⟩) (ri_on hK hR2) hb.1
    rw [e.1, e.2]
    exact jR_00 hs ht hq hM1
  · have e1 : fgS (u1 sc 0 0) 1 = sc 1 := by rw [fgS_o (by decide), u1_o (by decide)]
    have e242 : ai1 242 = ai 242 := f3 242 (by decide)
    have hon : onto (ai1 240) (sc 1) := by rw [f4]; exact mvF_on (ri_on hK hR2) f1.1 (by omega)
    obtain ⟨c, hc1, hc2⟩ : ∃ c, mvR (ai 240) (ai1 240) (sc 1) T.2.1.1 c ∧ ((sc 13 = 0 ∧ c = []) ∨ (sc 13 = 1 ∧ c7Q (vO (ai1 240)) (sc 1).toNat ai1 al1 68 c)) := by
      rcases ht.2.1 with ⟨h1, h2⟩ | ⟨h1, h2⟩
      · exact ⟨[], by rw [h2]; exact mvR_nil, Or.inl ⟨h1, rfl⟩⟩
      · obtain ⟨c, c1, c2⟩ := mv_r (ri_on hK hR2) hon hb.1 h2.2 h2.1 e242 f7 e1 rfl
        exact ⟨c, c2, Or.inr ⟨h1, c1, c2.1⟩⟩
    have e := oR_u ho (Or.inr ⟨f, f1, f2, f4, c, rfl, hc1⟩) (ri_on hK hR2) hb.1
    rw [e.1, e.2]
    refine ⟨_, _, _, _, tm_rf hM1, ⟨rfl, rfl, rfl⟩, fun i hi => ?_, by rw [e1]; exact tQ_m ht (fun j hj => by rw [fgS_o (by omega), u1_o (by omega)]) fgS_z.2.2 hc2 (f5 245 (by decide) (by decide)), ⟨fgS_z.1, fgS_z.2.1⟩⟩
    rw [e1]
    by_cases hp : (i : Int) < sc 4
    · refine sW_so (f6 i hp) e1 rfl hon hb.1 (hK1.1 i).1 ?_
      rw [e242]
      have h8 := hW i hi
      rw [h8.1, h8.2]
      exact hv i hi
    · have h8 := (hW i hi).1
      rw [e242, h8, hw0 i hi (by omega)]
      exact sW_nil
theorem J107 (hL : lI L xs vh n p n2 p2 t g u w) (hC : jC vh V F H T) (hR : jR vh V F H T) (hH : ∀ i : Nat, p2 ≤ (i : Int) → i < 16 → H i = 0) : vm_Rp 0 0 107 [.ref 238] vh (fun _ v1 => jC v1 V F H T ∧ jR v1 V F H T) := by
  obtain ⟨θ, sc, ai, al, az, fo, ⟨_, ⟨rfl, rfl⟩, _⟩, hT, hM, hK, hI, hR2, hS9, hO9, hU, hW⟩ := hL
  obtain ⟨⟨rfl, rfl, rfl⟩, hs, ht, hq⟩ := jRl hR hM
  have hb := hI.1.1
  refine (r107 hM hK hb.2).imp fun r v1 hq1 => ?_
  obtain ⟨sc1, ai1, az1, q, hc, rfl, hK1, hM1⟩ := hq1
  refine ⟨jC_k hC hM1, ?_⟩
  rcases hc with ⟨c1, _, rfl, rfl, rfl⟩ | ⟨c1, _, rfl, rfl, rfl⟩
  · exact jR_00 hs ht hq hM1
  · refine ⟨_, _, _, _, tm_rf hM1, ⟨u2_af (by decide), u2_af (by decide), ?_⟩, fun i hi => ?_, by rw [u1_o (by decide), u1_o (by decide)]; exact tQ_f ht hK (fun j hj => by rw [u1_o (by omega), u1_o (by omega)]) ⟨u2_o (by omega), fun _ _ => ⟨rfl, rfl⟩⟩ ⟨u2_o (by omega), fun _ _ => ⟨rfl, rfl⟩⟩ rfl, ?_⟩
    · rw [u2_u1]
      funext j
      by_cases e : j = (sc 4).toNat
      · rw [e, u1_s, hH _ (by omega) (by omega)]
        rfl
      · rw [u1_o e]
    · rw [u1_o (by decide), u1_o (by decide)]
      by_cases e : i = (sc 4).toNat
      · rw [e, u2_s]
        exact sW_nil
      · rw [u2_o e]
        exact hs i hi
    · rw [u1_o (by decide), u1_o (by decide)]
      exact stQ_f hq (by rw [u1_o (by decide), u1_o (by decide)]) (by rw [u1_o (by decide), u1_o (by decide)]) hR2.2.1.1.2 hK (fun s hs => ⟨u2_o (by omega), fun _ _ => ⟨rfl, rfl⟩⟩)
/-- term leaves valid keys -/
theorem rtr_v {O N : List (Int64 × Int64)} {K C : Nat → Int64} {m m1 q tt : Int} {k v : Int64} {P : Int64 → Prop} (h : rtr O K C m k v q m1 N tt) (hk : P k) (hO : ∀ x, x ∈ O → P x.1) : ∀ x, x ∈ N → P x.1 := by
  intro x hx
  rcases h with ⟨_, _, r, _⟩ | ⟨_, _, _, r⟩ | ⟨_, _, _, _, _, _, _, r⟩ | ⟨_, _, _, _, _, _, _, r⟩ | ⟨_, _, _, _, _, _, _, R, r1, r2⟩
  · rw [r] at hx; exact hO x hx
  · rw [r] at hx; exact hO x hx
  · rcases List.mem_cons.mp (r.subset hx) with e | e
    · rw [e]; exact hk
    · exact hO x e
  · exact hO x (r.symm.subset (List.mem_cons_of_mem _ hx))
  · rcases List.mem_cons.mp (r1.subset hx) with e | e
    · rw [e]; exact hk
    · exact hO x (r2.symm.subset (List.mem_cons_of_mem _ e))
theorem J108 (hL : lI L xs vh n p n2 p2 t g u w) (hv : ∀ i, i < 16 → ∀ x, x ∈ w.2 i → ∃ w', val n2.toNat w' ∧ x.1 = kof idv w' 8) (hC : jC vh V F H T1) (hR : jR vh V F H T) {i1 : Int} (hi_1 : -2147483648 ≤ i1 ∧ i1 < 2147483648) {l_2 : Int64} {i3 : Int} (hi_3 : -2147483648 ≤ i3 ∧ i3 < 2147483648) : vm_Rp 3 77 108 [.ref 238, .int (vz i1), .long l_2, .int (vz i3)] vh (fun r v1 => ∃ (T2 : T7) (q : Int), ((0 ≤ q ∧ q ≤ 1) ∧ r = some (.int (vz q)) ∧ tmR i1 l_2 H q T T2) ∧ jC v1 V F H T1 ∧ jR v1 V F H T2) := by
  obtain ⟨θ, sc, ai, al, az, fo, ⟨_, ⟨rfl, rfl⟩, _⟩, hT, hM, hK, hI, hR2, hS9, hO9, hU, hW⟩ := hL
  obtain ⟨⟨rfl, rfl, rfl⟩, hs, ht, hst⟩ := jRl hR hM
  have hb := hI.1.1
  refine (rp_and (c108s hM hK hI hi_1 hi_3 hR2) (r108f hM hK hi_1 hi_3 hb.1 hb.2)).imp fun r v1 hq => ?_
  obtain ⟨⟨sc1, ai1, al1, az1, hM1, hK1, hI1, hF, hE, q0, hc, hd, rfl⟩, sc3, ai3, al3, q, ⟨hqb, hf⟩, hqe, hK3, hM3⟩ := hq
  have e1 : sc1 1 = sc 1 := hF.1 1 rfl
  have e240 : ai1 240 = ai 240 := hF.2.1 240 rfl (by decide)
  have c10 := un_s hM1 hM3 (j := 10) (fun _ => rfl)
  have c11 := un_s hM1 hM3 (j := 11) (fun _ => rfl)
  have c12 := un_s hM1 hM3 (j := 12) (fun _ => rfl)
  have hsw : ∀ i : Nat, i < 16 → sW (ai 240) (sc1 1) (ls (pr_ al1 (60 * i)) (ai1 242 i).toNat) := fun i hi => by
    rw [e1]
    rcases hd with ⟨rfl, rfl⟩ | ⟨scp, alp, d1, d2, d3⟩
    · exact hs i hi
    · rcases hc with ⟨_, rfl, rfl, _⟩ | ⟨c1, c2, tt, c3, c4⟩
      · exact hs i hi
      · by_cases e : i = i1.toNat
        · subst e
          have e60 : (60 * i1).toNat = 60 * i1.toNat := by omega
          rw [e60] at c4
          refine sW_so d3 (d1.trans e1) e240 (ri_on hK hR2) hb.1 (hK1.1 _).1 fun x hx => ?_
          have hx1 := d2.symm.subset hx
          refine rtr_v (P := fun y => ∃ w', val (sc 1).toNat w' ∧ y = kof idv w' 8) c4 ⟨_, c2, rfl⟩ (fun y hy => ?_) x hx1
          have h8 := hW i1.toNat hi
          rw [h8.1, h8.2] at hy
          exact hv i1.toNat hi y hy
        · have q2 := hF.2.2.2.1 i (by omega)
          have h0 := hK.1 i
          have e9 : ls (pr_ al1 (60 * i)) (ai1 242 i).toNat = ls (pr_ al (60 * i)) (ai 242 i).toNat := by
            rw [q2.1]
            refine ls_cg _ fun t ht => ?_
            have q3 := q2.2 t (by omega)
            unfold pr_
            rw [q3.1, q3.2]
          rw [e9]
          exact hs i hi
  have hfar : ∀ s, 58 ≤ s → ai1 242 s = ai 242 s ∧ ∀ t, t < 60 → al1 243 (60 * s + t) = al 243 (60 * s + t) ∧ al1 244 (60 * s + t) = al 244 (60 * s + t) := fun s hs9 => by
    rcases hc with ⟨_, rfl, rfl, _⟩ | ⟨c1, _⟩
    · exact ⟨rfl, fun _ _ => ⟨rfl, rfl⟩⟩
    · exact hF.2.2.2.1 s (by omega)
  have hk : ∀ j, 13 ≤ j ∧ j ≤ 17 → sc1 j = sc j := fun j hj => hF.1 j (by
    have : j = 13 ∨ j = 14 ∨ j = 15 ∨ j = 16 ∨ j = 17 := by omega
    rcases this with rfl | rfl | rfl | rfl | rfl <;> rfl)
  rcases hf with ⟨rfl, hno⟩ | ⟨rfl, h1, h2, h3, h4⟩
  · rw [u1_o (by decide)] at c10 c11 c12
    have h1217 : ∀ j, 12 ≤ j ∧ j ≤ 17 → sc1 j = sc j := fun j hj => by
      by_cases e : j = 12
      · rw [e]; exact c12
      · exact hk j (by omega)
    refine ⟨T, q, ⟨hqb, hqe, Or.inl ⟨rfl, hno⟩⟩, jC_k hC hM1, sc1, ai1, al1, az1, tm_rf hM1, ⟨e240, hF.2.2.2.2 239 rfl, hF.2.2.2.2 241 rfl⟩, hsw, by rw [e1]; exact tQ_f ht hK h1217 (hfar 68 (by decide)) (hfar 67 (by decide)) (hF.2.2.1 245 rfl (by decide) (by decide)), ?_⟩
    · rw [e1]
      exact stQ_f hst c10 c11 hR2.2.1.1.2 hK (fun s hs9 => hfar s hs9.1)
  · rw [fgS_z.1] at c10
    rw [fgS_z.2.1] at c11
    rw [fgS_z.2.2] at c12
    exact ⟨fgT T, q, ⟨hqb, hqe, Or.inr ⟨rfl, h2, h3, h4⟩⟩, jC_k hC hM1, sc1, ai1, al1, az1, tm_rf hM1, ⟨e240, hF.2.2.2.2 239 rfl, hF.2.2.2.2 241 rfl⟩, hsw, by rw [e1]; exact tQ_0 ht hK hk c12 (hfar 68 (by decide)) (hF.2.2.1 245 rfl (by decide) (by decide)), ⟨c10, c11⟩⟩
theorem J109 (hL : lI L xs vh n p n2 p2 t g u w) {i1 i2 : Int} (hC : jC vh V F (hN7 p2 i1 i2 H) (tU p2 i1 i2 H T)) (hR : jR vh V F H T) (hi_1 : -2147483648 ≤ i1 ∧ i1 < 2147483648) (hi_2 : 0 ≤ i2 ∧ i2 ≤ 1) : vm_Rp 1 21 109 [.ref 238, .int (vz i1), .int (vz i2)] vh (fun _ v1 => jC v1 V F (hN7 p2 i1 i2 H) (tU p2 i1 i2 H T) ∧ jR v1 V F (hN7 p2 i1 i2 H) (tU p2 i1 i2 H T)) := by
  obtain ⟨θ, sc, ai, al, az, fo, ⟨_, ⟨rfl, rfl⟩, _⟩, hT, hM, hK, hI, hR2, hS9, hO9, hU, hW⟩ := hL
  obtain ⟨⟨rfl, rfl, rfl⟩, hs, ht, hst⟩ := jRl hR hM
  have hb := hI.1.1
  refine (r109 hM hK hi_1 hi_2 hb.2).imp fun r v1 hq => ?_
  obtain ⟨sc1, az1, q, hc, rfl, hK1, hM1⟩ := hq
  refine ⟨jC_k hC hM1, ?_⟩
  unfold hN7 tU
  rcases hc with ⟨_, hc, rfl, rfl⟩ | ⟨_, h1, h2, rfl, rfl⟩
  · have hno : ¬ ((0 ≤ i1 ∧ i1 < sc 4) ∧ az1 241 i1.toNat ≠ vz i2) := fun z => by
      rcases hc with hc | hc
      · exact hc z.1
      · exact z.2 hc.2
    rw [if_neg hno, if_neg hno]
    exact jR_00 hs ht hst hM1
  · rw [if_pos ⟨h1, h2⟩, if_pos ⟨h1, h2⟩]
    exact ⟨_, _, _, _, tm_rf hM1, ⟨rfl, u2_af (by decide), u2_u1⟩, fun i hi => by rw [fgS_o (by decide), u1_o (by decide)]; exact hs i hi, by rw [fgS_o (by decide), u1_o (by decide)]; exact tQ_0 ht hK (fun j hj => by rw [fgS_o (by omega), u1_o (by omega)]) fgS_z.2.2 ⟨rfl, fun _ _ => ⟨rfl, rfl⟩⟩ rfl, ⟨fgS_z.1, fgS_z.2.1⟩⟩
theorem tbG_n {V : Nat → Nat} {nv : Nat} (h : gi sc ai al az) : tbG V nv sc ai al az [] := ⟨⟨tb_0 h, h.2.1⟩, ⟨List.Pairwise.nil, fun x hx => absurd hx List.not_mem_nil⟩, fun t x e => by cases e⟩
theorem J102 (hL : lI L xs vh n p n2 p2 t g u w) (hC : jC vh V F H (tD n2 p2 V F H U T)) (hR : jR vh V F H T) (hu : uW n2 u w U) (ev : u.1 = V) : vm_Rp 7 181 102 [.ref 238] vh (fun r v1 => jC v1 V F H (tD n2 p2 V F H U T) ∧ jR v1 V F H (tD n2 p2 V F H U T) ∧ r = some (.int (vz (dA n2 p2 V F H U)))) := by
  obtain ⟨θ, sc, ai, al, az, fo, ⟨_, ⟨rfl, rfl⟩, _⟩, hT, hM, hK, hI, hR2, hS9, hO9, hU, hW⟩ := hL
  obtain ⟨⟨rfl, rfl, rfl⟩, hs, ht, hst⟩ := jRl hR hM
  have hb := hI.1.1
  have evR : vR ai = vO u.1 := by
    funext k
    show (ai 240 k).toNat = (u.1 k).toNat
    rw [ev]
  have hUQ : usQ (vO u.1) (sc 1).toNat (sc 4).toNat U ai al := fun i hi => by
    obtain ⟨_, h3, h4, h5⟩ := hu i (by omega)
    have h8 := hW i (by omega)
    refine ⟨⟨h8.1.trans h4, ?_⟩, h3⟩
    have h9 := h8.2
    rw [h4, Int.toNat_natCast, h5] at h9
    exact h9
  have hpm : pmV (vO u.1) (sc 1).toNat := pm_on (by rw [ev]; exact ri_on hK hR2) hb.1
  refine (r102 hM hK (nv := (sc 1).toNat) (n := (sc 4).toNat) (by omega) evR (rfl : frR az ai = frO (ai 240) (az 239)) hpm hUQ (by omega) (by omega) (tbG_n hI)).imp fun r v1 hq => ?_
  obtain ⟨sc1, ai1, al1, az1, hc, hK1, hM1⟩ := hq
  refine ⟨jC_k hC hM1, ?_⟩
  have hc : ((thP U (hyO (az 241)) (sc 4).toNat).2 = 0 ∧ sc1 = u1 sc 0 0 ∧ ai1 = ai ∧ al1 = al ∧ az1 = az ∧ r = some (.int (vz (-1)))) ∨ ((thP U (hyO (az 241)) (sc 4).toNat).2 ≠ 0 ∧ deR (frO (ai 240) (az 239)) (vO u.1) (sc 1).toNat (dT (frO (ai 240) (az 239)) (sc 1).toNat U (hyO (az 241)) (sc 4).toNat) sc sc1 ai ai1 al al1 az az1 ∧ r = some (.int (vz (dT (frO (ai 240) (az 239)) (sc 1).toNat U (hyO (az 241)) (sc 4).toNat).1.1))) := hc
  unfold dA tD
  rcases hc with ⟨c1, rfl, rfl, rfl, rfl, c2⟩ | ⟨c1, ⟨⟨d1, d2, d3⟩, d4, d5, d6, ⟨d7, _⟩, d8, d9⟩, c2⟩
  · rw [if_pos c1, if_pos c1]
    exact ⟨jR_00 hs ht hst hM1, c2⟩
  · rw [if_neg c1, if_neg c1]
    refine ⟨⟨sc1, ai1, al1, az1, tm_rf hM1, ⟨d9.1.1 240 (by decide) (by decide) (by decide) (by decide) (by decide) (by decide), d9.2.2 239 (by decide), d9.2.2 241 (by decide)⟩, fun i hi => ?_, ⟨⟨d1, d2, d3, (d8 17 (by omega)).trans ht.1.2.2.2⟩, ?_, Or.inl ⟨d7, rfl⟩, by rw [d9.2.1.1 245 (by decide) (by decide) (by decide) (by decide) (by decide) (by decide)]; exact ht.2.2.2⟩, ?_⟩, c2⟩
    · have h0 := hK.1 i
      have e9 : ls (pr_ al1 (60 * i)) (ai1 242 i).toNat = ls (pr_ al (60 * i)) (ai 242 i).toNat := by
        rw [d9.1.2 i (by omega)]
        refine ls_cg _ fun t ht => ?_
        unfold pr_
        rw [d9.2.1.2 244 _ (Or.inr rfl) (by omega), d9.2.1.2 243 _ (Or.inl rfl) (by omega)]
      rw [e9, d8 1 (by omega)]
      exact hs i hi
    · rw [ev] at d4
      rw [d8 1 (by omega)]
      revert d4
      show cnZ _ _ (dT (frO (ai 240) (az 239)) (sc 1).toNat U (hyO (az 241)) (sc 4).toNat).1.2.2.2.2 _ _ _ → _
      cases (dT (frO (ai 240) (az 239)) (sc 1).toNat U (hyO (az 241)) (sc 4).toNat).1.2.2.2.2 with
      | none => exact fun h => Or.inl ⟨h, rfl⟩
      | some g => exact fun h => Or.inr ⟨h.1, h.2⟩
    · rw [d8 1 (by omega)]
      show stQ _ _ _ _ _ (if (dT (frO (ai 240) (az 239)) (sc 1).toNat U (hyO (az 241)) (sc 4).toNat).1.1 = 1 then some _ else none)
      by_cases z1 : (dT (frO (ai 240) (az 239)) (sc 1).toNat U (hyO (az 241)) (sc 4).toNat).1.1 = 1
      · rw [if_pos z1]
        rw [ev] at d5
        exact d5 z1
      · rw [if_neg z1]
        exact d6 z1
theorem gD_mem {B : List Nat} {j : Nat} (hj : j < B.length) : B.reverse.getD j 0 ∈ B := by
  have h1 : j < B.reverse.length := by rw [List.length_reverse]; exact hj
  rw [List.getD_eq_getElem?_getD, List.getElem?_eq_getElem h1]
  exact List.mem_reverse.mp (List.getElem_mem h1)
theorem J104 (hL : lI L xs vh n p n2 p2 t g u w) {i1 : Int} (hC : jC vh V F H (tP n2 p2 V F U i1 T)) (hR : jR vh V F H T) (hu : uW n2 u w U) (ev : u.1 = V) (en2 : n2 = n) (hi_1 : -2147483648 ≤ i1 ∧ i1 < 2147483648) : vm_Rp 6 157 104 [.ref 238, .int (vz i1)] vh (fun r v1 => jC v1 V F H (tP n2 p2 V F U i1 T) ∧ jR v1 V F H (tP n2 p2 V F U i1 T) ∧ r = some (.int (vz (pA n2 p2 V F U i1 T)))) := by
  have hL0 := hL
  obtain ⟨θ, sc, ai, al, az, fo, ⟨_, ⟨rfl, rfl⟩, _⟩, hT, hM, hK, hI, hR2, hS9, hO9, hU, hW⟩ := hL
  obtain ⟨⟨rfl, rfl, rfl⟩, hs, ht, hst⟩ := jRl hR hM
  have hb := hI.1.1
  have evR : vR ai = vO (ai 240) := rfl
  have hUQ : usQ (vO (ai 240)) (sc 1).toNat (sc 4).toNat U ai al := fun i hi => by
    obtain ⟨_, h3, h4, h5⟩ := hu i (by omega)
    have h8 := hW i (by omega)
    refine ⟨⟨h8.1.trans h4, ?_⟩, h3⟩
    have h9 := h8.2
    rw [h4, Int.toNat_natCast, h5, ev] at h9
    exact h9
  have hpm : pmV (vO (ai 240)) (sc 1).toNat := pm_on (ri_on hK hR2) hb.1
  have fin : ∀ v1 : vm_H, (∃ sc1 ai1 al1 az1, tm sc1 ai1 al1 az1 vh v1) → jC v1 (ai 240) (az 239) (az 241) (tP (sc 1) (sc 4) (ai 240) (az 239) U i1 T) := fun v1 h9 => by
    obtain ⟨_, _, _, _, h9⟩ := h9
    exact jC_k hC h9
  unfold pA
  unfold tP at fin hC ⊢
  cases e9 : T.2.2 with
  | none =>
    rw [e9] at hst fin
    refine (r104c hM hK hi_1 (n := (sc 4).toNat) (m := 0) (S := fun _ => ([], 0, 0)) (nv := (sc 1).toNat) (by omega) evR (rfl : frR az ai = frO (ai 240) (az 239)) hpm hUQ (by omega) (by omega) (tbG_n hI) (Or.inl hst.1) (fun z => by have := hst.1; omega)).imp fun r v1 hq => ?_
    obtain ⟨sc1, ai1, al1, az1, q, hc, _, rfl, hK1, hM1⟩ := hq
    rcases hc with ⟨rfl, _, rfl, rfl, rfl, rfl⟩ | ⟨_, h2, _⟩
    · exact ⟨fin v1 ⟨_, _, _, _, hM1⟩, jR_00 hs ht (by rw [e9]; exact hst) hM1, rfl⟩
    · have := hst.1
      omega
  | some s =>
    rw [e9] at hst fin hC
    dsimp only at hC
    have hpl : s.2.2.length ≤ 8 ∧ ∀ b, b ∈ s.2.2 → plP (frO (ai 240) (az 239)) (sc 1).toNat (s.1 b) ≠ -1 := by
      obtain ⟨Z, al0, ai0, az0, mm, sk, hT0, hk0, _, _, _, _, hSt⟩ := hC
      have ez := (jl hL0 hT0).1.1
      have e8 : (if 0 ≤ i1 ∧ i1 < sc 4 then (((T.1.1, T.1.2.1, T.1.2.2.1, ((rP (frO (ai 240) (az 239)) (sc 1).toNat s (U i1.toNat)).2.1 : Int)), (T.2.1.1, if (rP (frO (ai 240) (az 239)) (sc 1).toNat s (U i1.toNat)).1 = true then (rP (frO (ai 240) (az 239)) (sc 1).toNat s (U i1.toNat)).2.2 else [], T.2.1.2.2), some s) : T7) else T).2.2 = some s := by
        split
        · rfl
        · exact e9
      rw [e8, ez, ← en2] at hSt
      exact ⟨hSt.2.1.2.1.2.1, fun b hb9 => hSt.2.1.1.2 b (hSt.2.1.2.1.2.2.1 b hb9)⟩
    have hms : msQ (frO (ai 240) (az 239)) (vO (ai 240)) (sc 1).toNat sc ai al s.2.2.length (mbP (frO (ai 240) (az 239)) (sc 1).toNat s.1 s.2.2) := ⟨⟨hst.1.2, hpl.1⟩, fun j hj => ⟨hst.2 j hj, by
      have h1 := hpl.2 _ (gD_mem hj)
      have h2 := pl_bd (fr := frO (ai 240) (az 239)) (nv := (sc 1).toNat) (f := s.1 (s.2.2.reverse.getD j 0))
      show plP _ _ (s.1 (s.2.2.reverse.getD j 0)) = ((plP _ _ (s.1 (s.2.2.reverse.getD j 0))).toNat : Int)
      omega, rfl⟩⟩
    refine (rp_and (c104 hM hK hI hi_1 hR2) (r104c hM hK hi_1 (n := (sc 4).toNat) (m := s.2.2.length) (S := mbP (frO (ai 240) (az 239)) (sc 1).toNat s.1 s.2.2) (nv := (sc 1).toNat) (by omega) evR (rfl : frR az ai = frO (ai 240) (az 239)) hpm hUQ (by omega) (by omega) (tbG_n hI) (Or.inr hst.1.1) (fun _ => hms))).imp fun r v1 hq => ?_
    obtain ⟨⟨⟨sc2, ai2, al2, az2, hM2, hK2, hI2, hF2, hE2⟩, _⟩, sc1, ai1, al1, az1, q, hc, h68, rfl, hK1, hM1⟩ := hq
    have fin1 := fin v1 ⟨_, _, _, _, hM1⟩
    dsimp only at fin1 ⊢
    rcases hc with ⟨rfl, hno, rfl, rfl, rfl, rfl⟩ | ⟨h1, _, hc⟩
    · have hno : ¬ (0 ≤ i1 ∧ i1 < sc 4) := by
        have := hst.1.1
        omega
      rw [if_neg hno] at fin1 ⊢
      rw [if_neg hno]
      exact ⟨fin1, jR_00 hs ht (by rw [e9]; exact hst) hM1, rfl⟩
    · rw [if_pos h1] at fin1 ⊢
      rw [if_pos h1]
      have c12 := un_s hM2 hM1 (j := 12) (fun _ => rfl)
      have c17 := un_s hM2 hM1 (j := 17) (fun _ => rfl)
      have c2 := un_i hM2 hM1 (a := 242) (n := 72) rfl
      have c3 := un_l hM2 hM1 (a := 243) (n := 4320) rfl
      have c4 := un_l hM2 hM1 (a := 244) (n := 4320) rfl
      have hr : ((sc2 12 = 0 ∧ (if (rP (frO (ai 240) (az 239)) (sc 1).toNat s (U i1.toNat)).1 = true then (rP (frO (ai 240) (az 239)) (sc 1).toNat s (U i1.toNat)).2.2 else []) = []) ∨ (sc2 12 = 1 ∧ c7Q (vO (ai 240)) (sc 1).toNat ai2 al2 67 (if (rP (frO (ai 240) (az 239)) (sc 1).toNat s (U i1.toNat)).1 = true then (rP (frO (ai 240) (az 239)) (sc 1).toNat s (U i1.toNat)).2.2 else []))) ∧ q = if (rP (frO (ai 240) (az 239)) (sc 1).toNat s (U i1.toNat)).1 = true then (if (rP (frO (ai 240) (az 239)) (sc 1).toNat s (U i1.toNat)).2.2.length = 0 then 1 else 0) else 2 := by
        rcases hc.2 with ⟨a1, a2, a3⟩ | ⟨a1, a2, a3, a4, a5⟩
        · have a1 : (rP (frO (ai 240) (az 239)) (sc 1).toNat s (U i1.toNat)).1 = false := a1
          rw [a1]
          exact ⟨Or.inl ⟨c12.trans a3, rfl⟩, a2⟩
        · have a1 : (rP (frO (ai 240) (az 239)) (sc 1).toNat s (U i1.toNat)).1 = true := a1
          rw [if_pos a1, if_pos a1]
          refine ⟨Or.inr ⟨c12.trans a2, qL_cg a4 (by rw [c2]) (fun t _ => ⟨by rw [c4], by rw [c3]⟩), a5⟩, ?_⟩
          rcases a3 with ⟨b1, b2⟩ | ⟨b1, b2⟩
          · rw [if_pos (by show (rP (frO (ai 240) (az 239)) (sc 1).toNat s (U i1.toNat)).2.2.length = 0; rw [show (rP (frO (ai 240) (az 239)) (sc 1).toNat s (U i1.toNat)).2.2 = [] from b2]; rfl)]
            exact b1
          · rw [if_neg (fun z => b2 (List.eq_nil_of_length_eq_zero z))]
            exact b1
      refine ⟨fin1, ⟨sc2, ai2, al2, az2, tm_rf hM2, ⟨hF2.2.1 240 rfl (by decide), hF2.2.2.2.2 239 rfl, hF2.2.2.2.2 241 rfl⟩, fun i hi => ?_, ⟨⟨(hF2.1 14 rfl).trans ht.1.1, (hF2.1 15 rfl).trans ht.1.2.1, (hF2.1 16 rfl).trans ht.1.2.2.1, c17.trans hc.1⟩, ?_, by rw [hF2.1 1 rfl]; exact hr.1, by rw [hF2.2.2.1 245 rfl (by decide) (by decide)]; exact ht.2.2.2⟩, ?_⟩, by rw [hr.2]⟩
      · have q2 := hF2.2.2.2.1 i (by omega)
        have h0 := hK.1 i
        have e8 : ls (pr_ al2 (60 * i)) (ai2 242 i).toNat = ls (pr_ al (60 * i)) (ai 242 i).toNat := by
          rw [q2.1]
          refine ls_cg _ fun t ht => ?_
          have q3 := q2.2 t (by omega)
          unfold pr_
          rw [q3.1, q3.2]
        rw [e8, hF2.1 1 rfl]
        exact hs i hi
      · rw [hF2.1 13 rfl, hF2.1 1 rfl]
        refine ht.2.1.imp id fun h => ⟨h.1, c7Q_f h.2 hK ⟨by rw [c2]; exact h68.1, fun t ht => ⟨by rw [c3]; exact (h68.2 t ht).1, by rw [c4]; exact (h68.2 t ht).2⟩⟩⟩
      · rw [hF2.1 1 rfl]
        exact stQ_f (o := some s) hst (hF2.1 10 rfl) (hF2.1 11 rfl) hR2.2.1.1.2 hK (fun k hk => hF2.2.2.2.1 k (by omega))
theorem J122n (hL : lI L xs vh n p n2 p2 t g u w) (hC : jC vh V F H T) (hR : jR vh V F H T) (a b : Int64) (hb0 : ¬ b = 0) : vm_Rp 0 0 122 [.ref 238, .long a, .long b] vh (fun _ v1 => jC v1 V F H T ∧ jR v1 V F H T) := by
  obtain ⟨θ, sc, ai, al, az, fo, ⟨_, ⟨rfl, rfl⟩, _⟩, hT, hM, hK, hI, hR2, hS9, hO9, hU, hW⟩ := hL
  obtain ⟨⟨rfl, rfl, rfl⟩, hs, ht, hst⟩ := jRl hR hM
  refine (c122n hM a b hb0).imp fun r v1 hq => ?_
  exact ⟨jC_k hC hq.1, jR_00 hs ht hst hq.1⟩
theorem J122z (hL : lI L xs vh n p n2 p2 t g u w) (hC : jC vh V F H T) (hR : jR vh V F H T) (a b : Int64) (hb0 : b = 0) : vm_Rp 0 0 122 [.ref 238, .long a, .long b] vh (fun _ v1 => jC v1 V F H T ∧ jR v1 V F H T) := by
  obtain ⟨θ, sc, ai, al, az, fo, ⟨_, ⟨rfl, rfl⟩, _⟩, hT, hM, hK, hI, hR2, hS9, hO9, hU, hW⟩ := hL
  obtain ⟨⟨rfl, rfl, rfl⟩, hs, ht, hst⟩ := jRl hR hM
  refine (c122z hM a b hb0).imp fun r v1 hq => ?_
  exact ⟨jC_k hC hq.1, jR_00 hs ht hst hq.1⟩
theorem rel_v (hZ : rel5 n p u w) : ∀ i, i < 16 → ∀ x, x ∈ w.2 i → ∃ w', val n.toNat w' ∧ x.1 = kof idv w' 8 := fun i hi => (hZ.1 i hi).2.2.2.1
-- frame-only calls
theorem J112 (hL : lI L xs vh n p n2 p2 t g u w) (hC : jC vh V F H T) (hR : jR vh V F H T) {i1 : Int} (hi_1 : -2147483648 ≤ i1 ∧ i1 < 2147483648) {i2 : Int} (hi_2 : -2147483648 ≤ i2 ∧ i2 < 2147483648) : vm_Rp 4 90 112 [.ref 238, .int (vz i1), .int (vz i2)] vh (fun _ v1 => jC v1 V F H T ∧ jR v1 V F H T) := by
  obtain ⟨θ, sc, ai, al, az, fo, ⟨_, ⟨rfl, rfl⟩, _⟩, hT, hM, hK, hI, hR2, hS9, hO9, hU, hW⟩ := hL
  refine (c112 hM hK hI hi_1 hi_2 hR2).imp fun r v1 hq => ?_
  obtain ⟨⟨sc1, ai1, al1, az1, hM1, hK1, hI1, hF, hE⟩, _⟩ := hq
  exact ⟨jC_k hC hM1, jR_fr hR hM hM1 hK hR2 hF x0 rfl rfl rfl rfl (by decide)⟩
theorem J113 (hL : lI L xs vh n p n2 p2 t g u w) (hC : jC vh V F H T) (hR : jR vh V F H T) {i1 : Int} (hi_1 : -2147483648 ≤ i1 ∧ i1 < 2147483648) : vm_Rp 0 0 113 [.ref 238, .int (vz i1)] vh (fun _ v1 => jC v1 V F H T ∧ jR v1 V F H T) := by
  obtain ⟨θ, sc, ai, al, az, fo, ⟨_, ⟨rfl, rfl⟩, _⟩, hT, hM, hK, hI, hR2, hS9, hO9, hU, hW⟩ := hL
  refine (c113 hM hK hI hi_1 hR2).imp fun r v1 hq => ?_
  obtain ⟨⟨sc1, ai1, al1, az1, hM1, hK1, hI1, hF, hE⟩, _⟩ := hq
  exact ⟨jC_k hC hM1, jR_fr hR hM hM1 hK hR2 hF x0 rfl rfl rfl rfl (by decide)⟩
theorem J115 (hL : lI L xs vh n p n2 p2 t g u w) (hC : jC vh V F H T) (hR : jR vh V F H T) {i1 : Int} (hi_1 : -2147483648 ≤ i1 ∧ i1 < 2147483648) {i2 : Int} (hi_2 : -2147483648 ≤ i2 ∧ i2 < 2147483648) {i3 : Int} (hi_3 : -2147483648 ≤ i3 ∧ i3 < 2147483648) : vm_Rp 5 112 115 [.ref 238, .int (vz i1), .int (vz i2), .int (vz i3)] vh (fun _ v1 => jC v1 V F H T ∧ jR v1 V F H T) := by
  obtain ⟨θ, sc, ai, al, az, fo, ⟨_, ⟨rfl, rfl⟩, _⟩, hT, hM, hK, hI, hR2, hS9, hO9, hU, hW⟩ := hL
  refine (c115 hM hK hI hi_1 hi_2 hi_3 hR2).imp fun r v1 hq => ?_
  obtain ⟨⟨sc1, ai1, al1, az1, hM1, hK1, hI1, hF, hE⟩, _⟩ := hq
  exact ⟨jC_k hC hM1, jR_fr hR hM hM1 hK hR2 hF x0 rfl rfl rfl rfl (by decide)⟩
theorem J116 (hL : lI L xs vh n p n2 p2 t g u w) (hC : jC vh V F H T) (hR : jR vh V F H T) {i1 : Int} (hi_1 : -2147483648 ≤ i1 ∧ i1 < 2147483648) {i2 : Int} (hi_2 : -2147483648 ≤ i2 ∧ i2 < 2147483648) {i3 : Int} (hi_3 : -2147483648 ≤ i3 ∧ i3 < 2147483648) : vm_Rp 5 112 116 [.ref 238, .int (vz i1), .int (vz i2), .int (vz i3)] vh (fun _ v1 => jC v1 V F H T ∧ jR v1 V F H T) := by
  obtain ⟨θ, sc, ai, al, az, fo, ⟨_, ⟨rfl, rfl⟩, _⟩, hT, hM, hK, hI, hR2, hS9, hO9, hU, hW⟩ := hL
  refine (c116 hM hK hI hi_1 hi_2 hi_3 hR2).imp fun r v1 hq => ?_
  obtain ⟨⟨sc1, ai1, al1, az1, hM1, hK1, hI1, hF, hE⟩, _⟩ := hq
  exact ⟨jC_k hC hM1, jR_fr hR hM hM1 hK hR2 hF x0 rfl rfl rfl rfl (by decide)⟩
theorem J117 (hL : lI L xs vh n p n2 p2 t g u w) {i1 : Int} {l_2 : Int64} (hC : jC vh V F H (pnT n2 i1 l_2 T)) (hR : jR vh V F H T) (hi_1 : -2147483648 ≤ i1 ∧ i1 < 2147483648) : vm_Rp 0 0 117 [.ref 238, .int (vz i1), .long l_2] vh (fun _ v1 => jC v1 V F H (pnT n2 i1 l_2 T) ∧ jR v1 V F H (pnT n2 i1 l_2 T)) := by
  obtain ⟨θ, sc, ai, al, az, fo, ⟨_, ⟨rfl, rfl⟩, _⟩, hT, hM, hK, hI, hR2, hS9, hO9, hU, hW⟩ := hL
  obtain ⟨⟨rfl, rfl, rfl⟩, hs, ht, hst⟩ := jRl hR hM
  have hb := hI.1.1
  refine (r117 hM hK hi_1 hb.1).imp fun r v1 hq => ?_
  obtain ⟨sc1, al1, q, rfl, hc, rfl, hK1, hM1⟩ := hq
  refine ⟨jC_k hC hM1, ?_⟩
  unfold pnT
  rcases hc with ⟨_, h1, rfl⟩ | ⟨_, h1, rfl⟩
  · rw [if_neg h1]
    exact jR_00 hs ht hst hM1
  · rw [if_pos h1]
    have e3 : ∀ a, a = 243 ∨ a = 244 → u2 al 245 i1.toNat l_2 a = al a := fun a ha => u2_af (by omega)
    have hsl : ∀ s, sl7 ai ai al (u2 al 245 i1.toNat l_2) s := fun s => ⟨rfl, fun t _ => ⟨by rw [e3 243 (Or.inl rfl)], by rw [e3 244 (Or.inr rfl)]⟩⟩
    refine ⟨_, _, _, _, tm_rf hM1, ⟨rfl, rfl, rfl⟩, fun i hi => ?_, ?_, ?_⟩
    · rw [u1_o (by decide)]
      have e9 : ls (pr_ (u2 al 245 i1.toNat l_2) (60 * i)) (ai 242 i).toNat = ls (pr_ al (60 * i)) (ai 242 i).toNat := ls_cg _ fun t _ => by
        unfold pr_
        rw [e3 243 (Or.inl rfl), e3 244 (Or.inr rfl)]
      rw [e9]
      exact hs i hi
    · rw [u1_o (by decide)]
      obtain ⟨k1, k2, k3, k4⟩ := tQ_s (sc1 := u1 sc 0 0) ht (fun j hj => u1_o (by omega))
      exact ⟨k1, k2.imp id (fun h => ⟨h.1, c7Q_f h.2 hK (hsl 68)⟩), k3.imp id (fun h => ⟨h.1, c7Q_f h.2 hK (hsl 67)⟩), by rw [u2_u1, up_u1]; exact ptE_u k4⟩
    · rw [u1_o (by decide)]
      exact stQ_f hst (u1_o (by decide)) (u1_o (by decide)) hR2.2.1.1.2 hK (fun s _ => hsl s)
theorem J120 (hL : lI L xs vh n p n2 p2 t g u w) (hC : jC vh V F H T) (hR : jR vh V F H T) {i1 : Int} (hi_1 : -2147483648 ≤ i1 ∧ i1 < 2147483648) {i2 : Int} (hi_2 : -2147483648 ≤ i2 ∧ i2 < 2147483648) : vm_Rp 5 112 120 [.ref 238, .int (vz i1), .int (vz i2)] vh (fun _ v1 => jC v1 V F H T ∧ jR v1 V F H T) := by
  obtain ⟨θ, sc, ai, al, az, fo, ⟨_, ⟨rfl, rfl⟩, _⟩, hT, hM, hK, hI, hR2, hS9, hO9, hU, hW⟩ := hL
  refine (c120 hM hK hI hi_1 hi_2 hR2).imp fun r v1 hq => ?_
  obtain ⟨⟨sc1, ai1, al1, az1, hM1, hK1, hI1, hF, hE⟩, _⟩ := hq
  exact ⟨jC_k hC hM1, jR_fr hR hM hM1 hK hR2 hF x0 rfl rfl rfl rfl (by decide)⟩
theorem J121 (hL : lI L xs vh n p n2 p2 t g u w) (hC : jC vh V F H T) (hR : jR vh V F H T) {i1 : Int} (hi_1 : -2147483648 ≤ i1 ∧ i1 < 2147483648) : vm_Rp 5 112 121 [.ref 238, .int (vz i1)] vh (fun _ v1 => jC v1 V F H T ∧ jR v1 V F H T) := by
  obtain ⟨θ, sc, ai, al, az, fo, ⟨_, ⟨rfl, rfl⟩, _⟩, hT, hM, hK, hI, hR2, hS9, hO9, hU, hW⟩ := hL
  refine (c121 hM hK hI hi_1 hR2).imp fun r v1 hq => ?_
  obtain ⟨⟨sc1, ai1, al1, az1, hM1, hK1, hI1, hF, hE⟩, _⟩ := hq
  exact ⟨jC_k hC hM1, jR_fr hR hM hM1 hK hR2 hF x0 rfl rfl rfl rfl (by decide)⟩
-- end of them
end JY
