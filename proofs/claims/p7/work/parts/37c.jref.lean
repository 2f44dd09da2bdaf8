/-! The reference's calls: what they leave of jR. -/
section JY
variable {V V1 : Nat → Int} {F H F1 H1 : Nat → Int32} {L : Nat} {xs : Nat → Int32} {vh v1 : vm_H} {n p n2 p2 t : Int} {g : Int64} {u : D5u} {w : D5w} {U : Nat → Po} {sc sc1 : Nat → Int} {ai ai1 : Nat → Nat → Int} {al al1 : Nat → Nat → Int64} {az az1 : Nat → Nat → Int32}
theorem ri_on (hK : tmok ai) (hR : ri2 sc ai al az) : onto (ai 240) (sc 1) := ⟨hK.2, hR.1⟩
theorem jR_fr {X Y : List Nat} {lo hi : Nat} (hR : jR vh V F H) (hM : tm sc ai al az vh vh) (hM1 : tm sc1 ai1 al1 az1 vh v1) (hK : tmok ai) (hF : fr X Y lo hi sc ai al az sc1 ai1 al1 az1) (h1 : X.contains 1 = false) (h2 : Y.contains 240 = false) (h3 : Y.contains 239 = false) (h4 : Y.contains 241 = false) (hl : 16 ≤ lo ∨ hi < lo) : jR v1 V F H := by
  obtain ⟨⟨e1, e2, e3⟩, hs⟩ := jRl hR hM
  refine ⟨sc1, ai1, al1, az1, tm_rf hM1, ⟨(hF.2.1 240 h2 (by decide)).trans e1, (hF.2.2.2.2 239 h3).trans e2, (hF.2.2.2.2 241 h4).trans e3⟩, fun i hi_ => ?_⟩
  have q := hF.2.2.2.1 i (by omega)
  have h0 := hK.1 i
  have e : ls (pr_ al1 (60 * i)) (ai1 242 i).toNat = ls (pr_ al (60 * i)) (ai 242 i).toNat := by
    rw [q.1]
    refine ls_cg _ fun t ht => ?_
    have q2 := q.2 t (by omega)
    unfold pr_
    rw [q2.1, q2.2]
  rw [e, hF.1 1 h1]
  exact hs i hi_
theorem J105 (hL : lI L xs vh n p n2 p2 t g u w) {i1 : Int} (hC : jC vh (vN n2 V) (fN n2 i1 F) H) (hR : jR vh V F H) (hi_1 : 0 ≤ i1 ∧ i1 ≤ 1) : vm_Rp 1 20 105 [.ref 238, .int (vz i1)] vh (fun _ v1 => jC v1 (vN n2 V) (fN n2 i1 F) H ∧ jR v1 (vN n2 V) (fN n2 i1 F) H) := by
  obtain ⟨θ, sc, ai, al, az, fo, ⟨_, ⟨rfl, rfl⟩, _⟩, hT, hM, hK, hI, hR2, hS9, hO9, hU, hW⟩ := hL
  obtain ⟨⟨rfl, rfl, rfl⟩, hs⟩ := jRl hR hM
  have hb := hI.1.1
  refine (r105 hM hK hi_1 hb.1).imp fun r v1 hq => ?_
  obtain ⟨sc1, ai1, az1, q, hc, rfl, hK1, hM1⟩ := hq
  refine ⟨jC_k hC hM1, ?_⟩
  unfold vN fN
  rcases hc with ⟨c1, _, rfl, rfl, rfl⟩ | ⟨c1, _, rfl, rfl, rfl⟩
  · rw [if_neg (by omega), if_neg (by omega)]
    exact ⟨_, _, _, _, tm_rf hM1, ⟨rfl, rfl, rfl⟩, fun i hi => by rw [u1_o (by decide)]; exact hs i hi⟩
  · rw [if_pos c1, if_pos c1]
    refine ⟨_, _, _, _, tm_rf hM1, ⟨u2_u1, u2_u1, u2_af (by decide)⟩, fun i hi => ?_⟩
    rw [fgS_o (by decide), u1_s, u2_af (by decide)]
    exact sW_nv (hs i hi) (ri_on hK hR2) (by omega)
theorem J106 (hL : lI L xs vh n p n2 p2 t g u w) (hv : ∀ i, i < 16 → ∀ x, x ∈ w.2 i → ∃ w', val n2.toNat w' ∧ x.1 = kof idv w' 8) (hw0 : ∀ i : Nat, i < 16 → p2 ≤ (i : Int) → w.1 i = 0) {i1 : Int} {i2 : Int} (ho : oR n2 i1 i2 V V1) (hC : jC vh V1 F H) (hR : jR vh V F H) (hi_1 : -2147483648 ≤ i1 ∧ i1 < 2147483648) (hi_2 : -2147483648 ≤ i2 ∧ i2 < 2147483648) : vm_Rp 3 77 106 [.ref 238, .int (vz i1), .int (vz i2)] vh (fun _ v1 => jC v1 V1 F H ∧ jR v1 V1 F H) := by
  obtain ⟨θ, sc, ai, al, az, fo, ⟨_, ⟨rfl, rfl⟩, _⟩, hT, hM, hK, hI, hR2, hS9, hO9, hU, hW⟩ := hL
  obtain ⟨⟨rfl, rfl, rfl⟩, hs⟩ := jRl hR hM
  have hb := hI.1.1
  refine (rp_and (c106x hM hK hI hi_1 hi_2 hR2) (r106 hM hK hi_1 hi_2 hb.1 hb.2 hR2.1)).imp fun r v1 hq => ?_
  obtain ⟨⟨⟨sc2, ai2, al2, az2, hM2, hK2, hI2, hF2, hE2, _⟩, _⟩, sc1, ai1, al1, q, hc, rfl, hK1, hM1⟩ := hq
  refine ⟨jC_k hC hM1, ?_⟩
  rcases hc with ⟨rfl, rfl, rfl, hc⟩ | ⟨f, f1, f2, ⟨f3, f4⟩, rfl, f5, f6⟩
  · have e := oR_u ho (Or.inl ⟨rfl, hc⟩) (ri_on hK hR2) hb.1
    rw [e]
    exact ⟨_, _, _, _, tm_rf hM1, ⟨rfl, rfl, rfl⟩, fun i hi => by rw [u1_o (by decide)]; exact hs i hi⟩
  · have e := oR_u ho (Or.inr ⟨f, f1, f2, f4⟩) (ri_on hK hR2) hb.1
    rw [e]
    have e1 : fgS (u1 sc 0 0) 1 = sc 1 := by rw [fgS_o (by decide), u1_o (by decide)]
    have e242 : ai1 242 = ai 242 := f3 242 (by decide)
    have hon : onto (ai1 240) (sc 1) := by
      have h9 := ri_on hK2 hE2
      have c0 := un_i hM1 hM2 (a := 240) (n := 8) rfl
      have c1 := un_s hM1 hM2 (j := 1) (fun _ => rfl)
      rw [← c0, ← c1, e1] at h9
      exact h9
    refine ⟨_, _, _, _, tm_rf hM1, ⟨rfl, rfl, rfl⟩, fun i hi => ?_⟩
    rw [e1]
    by_cases hp : (i : Int) < sc 4
    · refine sW_so (f6 i hp) e1 rfl hon hb.1 (hK1.1 i).1 ?_
      rw [e242]
      have h8 := hW i hi
      rw [h8.1, h8.2]
      exact hv i hi
    · have h8 := (hW i hi).1
      rw [e242, h8, hw0 i hi (by omega)]
      exact sW_nil
theorem J107 (hL : lI L xs vh n p n2 p2 t g u w) (hC : jC vh V F H) (hR : jR vh V F H) (hH : ∀ i : Nat, p2 ≤ (i : Int) → i < 16 → H i = 0) : vm_Rp 0 0 107 [.ref 238] vh (fun _ v1 => jC v1 V F H ∧ jR v1 V F H) := by
  obtain ⟨θ, sc, ai, al, az, fo, ⟨_, ⟨rfl, rfl⟩, _⟩, hT, hM, hK, hI, hR2, hS9, hO9, hU, hW⟩ := hL
  obtain ⟨⟨rfl, rfl, rfl⟩, hs⟩ := jRl hR hM
  have hb := hI.1.1
  refine (r107 hM hK hb.2).imp fun r v1 hq => ?_
  obtain ⟨sc1, ai1, az1, q, hc, rfl, hK1, hM1⟩ := hq
  refine ⟨jC_k hC hM1, ?_⟩
  rcases hc with ⟨c1, _, rfl, rfl, rfl⟩ | ⟨c1, _, rfl, rfl, rfl⟩
  · exact ⟨_, _, _, _, tm_rf hM1, ⟨rfl, rfl, rfl⟩, fun i hi => by rw [u1_o (by decide)]; exact hs i hi⟩
  · refine ⟨_, _, _, _, tm_rf hM1, ⟨u2_af (by decide), u2_af (by decide), ?_⟩, fun i hi => ?_⟩
    · rw [u2_u1]
      funext j
      by_cases e : j = (sc 4).toNat
      · rw [e, u1_s, hH _ (by omega) (by omega)]
        rfl
      · rw [u1_o e]
    · rw [u1_o (by decide), u1_o (by decide)]
      by_cases e : i = (sc 4).toNat
      · rw [e, u2_s]
        exact sW_nil
      · rw [u2_o e]
        exact hs i hi
/-- term leaves valid keys -/
theorem rtr_v {O N : List (Int64 × Int64)} {K C : Nat → Int64} {m m1 q tt : Int} {k v : Int64} {P : Int64 → Prop} (h : rtr O K C m k v q m1 N tt) (hk : P k) (hO : ∀ x, x ∈ O → P x.1) : ∀ x, x ∈ N → P x.1 := by
  intro x hx
  rcases h with ⟨_, _, r, _⟩ | ⟨_, _, _, r⟩ | ⟨_, _, _, _, _, _, _, r⟩ | ⟨_, _, _, _, _, _, _, r⟩ | ⟨_, _, _, _, _, _, _, R, r1, r2⟩
  · rw [r] at hx; exact hO x hx
  · rw [r] at hx; exact hO x hx
  · rcases List.mem_cons.mp (r.subset hx) with e | e
    · rw [e]; exact hk
    · exact hO x e
  · exact hO x (r.symm.subset (List.mem_cons_of_mem _ hx))
  · rcases List.mem_cons.mp (r1.subset hx) with e | e
    · rw [e]; exact hk
    · exact hO x (r2.symm.subset (List.mem_cons_of_mem _ e))
theorem J108 (hL : lI L xs vh n p n2 p2 t g u w) (hv : ∀ i, i < 16 → ∀ x, x ∈ w.2 i → ∃ w', val n2.toNat w' ∧ x.1 = kof idv w' 8) (hC : jC vh V F H) (hR : jR vh V F H) {i1 : Int} (hi_1 : -2147483648 ≤ i1 ∧ i1 < 2147483648) {l_2 : Int64} {i3 : Int} (hi_3 : -2147483648 ≤ i3 ∧ i3 < 2147483648) : vm_Rp 3 77 108 [.ref 238, .int (vz i1), .long l_2, .int (vz i3)] vh (fun _ v1 => jC v1 V F H ∧ jR v1 V F H) := by
  obtain ⟨θ, sc, ai, al, az, fo, ⟨_, ⟨rfl, rfl⟩, _⟩, hT, hM, hK, hI, hR2, hS9, hO9, hU, hW⟩ := hL
  obtain ⟨⟨rfl, rfl, rfl⟩, hs⟩ := jRl hR hM
  have hb := hI.1.1
  refine (c108s hM hK hI hi_1 hi_3 hR2).imp fun r v1 hq => ?_
  obtain ⟨sc1, ai1, al1, az1, hM1, hK1, hI1, hF, hE, q, hc, hd, rfl⟩ := hq
  refine ⟨jC_k hC hM1, ?_⟩
  have e1 : sc1 1 = sc 1 := hF.1 1 rfl
  have e240 : ai1 240 = ai 240 := hF.2.1 240 rfl (by decide)
  refine ⟨sc1, ai1, al1, az1, tm_rf hM1, ⟨e240, hF.2.2.2.2 239 rfl, hF.2.2.2.2 241 rfl⟩, fun i hi => ?_⟩
  rw [e1]
  rcases hd with ⟨rfl, rfl⟩ | ⟨scp, alp, d1, d2, d3⟩
  · exact hs i hi
  · rcases hc with ⟨_, rfl, rfl, _⟩ | ⟨c1, c2, tt, c3, c4⟩
    · exact hs i hi
    · by_cases e : i = i1.toNat
      · subst e
        have e60 : (60 * i1).toNat = 60 * i1.toNat := by omega
        rw [e60] at c4
        refine sW_so d3 (d1.trans e1) e240 (ri_on hK hR2) hb.1 (hK1.1 _).1 fun x hx => ?_
        have hx1 := d2.symm.subset hx
        refine rtr_v (P := fun y => ∃ w', val (sc 1).toNat w' ∧ y = kof idv w' 8) c4 ⟨_, c2, rfl⟩ (fun y hy => ?_) x hx1
        have h8 := hW i1.toNat hi
        rw [h8.1, h8.2] at hy
        exact hv i1.toNat hi y hy
      · have q2 := hF.2.2.2.1 i (by omega)
        have h0 := hK.1 i
        have e9 : ls (pr_ al1 (60 * i)) (ai1 242 i).toNat = ls (pr_ al (60 * i)) (ai 242 i).toNat := by
          rw [q2.1]
          refine ls_cg _ fun t ht => ?_
          have q3 := q2.2 t (by omega)
          unfold pr_
          rw [q3.1, q3.2]
        rw [e9]
        exact hs i hi
theorem J109 (hL : lI L xs vh n p n2 p2 t g u w) {i1 i2 : Int} (hC : jC vh V F (hN7 p2 i1 i2 H)) (hR : jR vh V F H) (hi_1 : -2147483648 ≤ i1 ∧ i1 < 2147483648) (hi_2 : 0 ≤ i2 ∧ i2 ≤ 1) : vm_Rp 1 21 109 [.ref 238, .int (vz i1), .int (vz i2)] vh (fun _ v1 => jC v1 V F (hN7 p2 i1 i2 H) ∧ jR v1 V F (hN7 p2 i1 i2 H)) := by
  obtain ⟨θ, sc, ai, al, az, fo, ⟨_, ⟨rfl, rfl⟩, _⟩, hT, hM, hK, hI, hR2, hS9, hO9, hU, hW⟩ := hL
  obtain ⟨⟨rfl, rfl, rfl⟩, hs⟩ := jRl hR hM
  have hb := hI.1.1
  refine (r109 hM hK hi_1 hi_2 hb.2).imp fun r v1 hq => ?_
  obtain ⟨sc1, az1, q, hc, rfl, hK1, hM1⟩ := hq
  refine ⟨jC_k hC hM1, ?_⟩
  unfold hN7
  rcases hc with ⟨_, hc, rfl, rfl⟩ | ⟨_, h1, h2, rfl, rfl⟩
  · rw [if_neg (fun z => by
      rcases hc with hc | hc
      · exact hc z.1
      · exact z.2 hc.2)]
    exact ⟨_, _, _, _, tm_rf hM1, ⟨rfl, rfl, rfl⟩, fun i hi => by rw [u1_o (by decide)]; exact hs i hi⟩
  · rw [if_pos ⟨h1, h2⟩]
    exact ⟨_, _, _, _, tm_rf hM1, ⟨rfl, u2_af (by decide), u2_u1⟩, fun i hi => by rw [fgS_o (by decide), u1_o (by decide)]; exact hs i hi⟩
theorem tbG_n {V : Nat → Nat} {nv : Nat} (h : gi sc ai al az) : tbG V nv sc ai al az [] := ⟨⟨tb_0 h, h.2.1⟩, ⟨List.Pairwise.nil, fun x hx => absurd hx List.not_mem_nil⟩, fun t x e => by cases e⟩
theorem J102 (hL : lI L xs vh n p n2 p2 t g u w) (hC : jC vh V F H) (hR : jR vh V F H) (hu : uW n2 u w U) (ev : u.1 = V) : vm_Rp 7 181 102 [.ref 238] vh (fun r v1 => jC v1 V F H ∧ jR v1 V F H ∧ r = some (.int (vz (dA n2 p2 V F H U)))) := by
  obtain ⟨θ, sc, ai, al, az, fo, ⟨_, ⟨rfl, rfl⟩, _⟩, hT, hM, hK, hI, hR2, hS9, hO9, hU, hW⟩ := hL
  have hR0 := hR
  obtain ⟨⟨rfl, rfl, rfl⟩, hs⟩ := jRl hR hM
  have hb := hI.1.1
  have evR : vR ai = vO u.1 := by
    funext k
    show (ai 240 k).toNat = (u.1 k).toNat
    rw [ev]
  have hUQ : usQ (vO u.1) (sc 1).toNat (sc 4).toNat U ai al := fun i hi => by
    obtain ⟨_, h3, h4, h5⟩ := hu i (by omega)
    have h8 := hW i (by omega)
    refine ⟨⟨h8.1.trans h4, ?_⟩, h3⟩
    have h9 := h8.2
    rw [h4, Int.toNat_natCast, h5] at h9
    exact h9
  have hpm : pmV (vO u.1) (sc 1).toNat := pm_on (by rw [ev]; exact ri_on hK hR2) hb.1
  refine (rp_and (c102 hM hK hI hR2) (r102 hM hK (nv := (sc 1).toNat) (n := (sc 4).toNat) (by omega) evR (rfl : frR az ai = frO (ai 240) (az 239)) hpm hUQ (by omega) (by omega) (tbG_n hI))).imp fun r v1 hq => ?_
  obtain ⟨⟨⟨sc2, ai2, al2, az2, hM2, hK2, hI2, hF2, hE2⟩, _⟩, sc1, ai1, al1, az1, hc, hK1, hM1⟩ := hq
  refine ⟨jC_k hC hM1, jR_fr hR0 hM hM2 hK hF2 rfl rfl rfl rfl (by decide), ?_⟩
  have hc : ((thP U (hyO (az 241)) (sc 4).toNat).2 = 0 ∧ sc1 = u1 sc 0 0 ∧ ai1 = ai ∧ al1 = al ∧ az1 = az ∧ r = some (.int (vz (-1)))) ∨ ((thP U (hyO (az 241)) (sc 4).toNat).2 ≠ 0 ∧ deR (frO (ai 240) (az 239)) (vO u.1) (sc 1).toNat (dT (frO (ai 240) (az 239)) (sc 1).toNat U (hyO (az 241)) (sc 4).toNat) sc sc1 ai ai1 al al1 az az1 ∧ r = some (.int (vz (dT (frO (ai 240) (az 239)) (sc 1).toNat U (hyO (az 241)) (sc 4).toNat).1.1))) := hc
  unfold dA
  rcases hc with ⟨c1, _, _, _, _, c2⟩ | ⟨c1, _, c2⟩
  · rw [if_pos c1]; exact c2
  · rw [if_neg c1]; exact c2
theorem J122n (hL : lI L xs vh n p n2 p2 t g u w) (hC : jC vh V F H) (hR : jR vh V F H) (a b : Int64) (hb0 : ¬ b = 0) : vm_Rp 0 0 122 [.ref 238, .long a, .long b] vh (fun _ v1 => jC v1 V F H ∧ jR v1 V F H) := by
  obtain ⟨θ, sc, ai, al, az, fo, ⟨_, ⟨rfl, rfl⟩, _⟩, hT, hM, hK, hI, hR2, hS9, hO9, hU, hW⟩ := hL
  obtain ⟨⟨rfl, rfl, rfl⟩, hs⟩ := jRl hR hM
  refine (c122n hM a b hb0).imp fun r v1 hq => ?_
  exact ⟨jC_k hC hq.1, _, _, _, _, tm_rf hq.1, ⟨rfl, rfl, rfl⟩, fun i hi => by rw [u1_o (by decide)]; exact hs i hi⟩
theorem J122z (hL : lI L xs vh n p n2 p2 t g u w) (hC : jC vh V F H) (hR : jR vh V F H) (a b : Int64) (hb0 : b = 0) : vm_Rp 0 0 122 [.ref 238, .long a, .long b] vh (fun _ v1 => jC v1 V F H ∧ jR v1 V F H) := by
  obtain ⟨θ, sc, ai, al, az, fo, ⟨_, ⟨rfl, rfl⟩, _⟩, hT, hM, hK, hI, hR2, hS9, hO9, hU, hW⟩ := hL
  obtain ⟨⟨rfl, rfl, rfl⟩, hs⟩ := jRl hR hM
  refine (c122z hM a b hb0).imp fun r v1 hq => ?_
  exact ⟨jC_k hC hq.1, _, _, _, _, tm_rf hq.1, ⟨rfl, rfl, rfl⟩, fun i hi => by rw [u1_o (by decide)]; exact hs i hi⟩
theorem rel_v (hZ : rel5 n p u w) : ∀ i, i < 16 → ∀ x, x ∈ w.2 i → ∃ w', val n.toNat w' ∧ x.1 = kof idv w' 8 := fun i hi => (hZ.1 i hi).2.2.2.1
-- frame-only calls
theorem J104 (hL : lI L xs vh n p n2 p2 t g u w) (hC : jC vh V F H) (hR : jR vh V F H) {i1 : Int} (hi_1 : -2147483648 ≤ i1 ∧ i1 < 2147483648) : vm_Rp 6 157 104 [.ref 238, .int (vz i1)] vh (fun _ v1 => jC v1 V F H ∧ jR v1 V F H) := by
  obtain ⟨θ, sc, ai, al, az, fo, ⟨_, ⟨rfl, rfl⟩, _⟩, hT, hM, hK, hI, hR2, hS9, hO9, hU, hW⟩ := hL
  refine (c104 hM hK hI hi_1 hR2).imp fun r v1 hq => ?_
  obtain ⟨⟨sc1, ai1, al1, az1, hM1, hK1, hI1, hF, hE⟩, _⟩ := hq
  exact ⟨jC_k hC hM1, jR_fr hR hM hM1 hK hF rfl rfl rfl rfl (by decide)⟩
theorem J112 (hL : lI L xs vh n p n2 p2 t g u w) (hC : jC vh V F H) (hR : jR vh V F H) {i1 : Int} (hi_1 : -2147483648 ≤ i1 ∧ i1 < 2147483648) {i2 : Int} (hi_2 : -2147483648 ≤ i2 ∧ i2 < 2147483648) : vm_Rp 4 90 112 [.ref 238, .int (vz i1), .int (vz i2)] vh (fun _ v1 => jC v1 V F H ∧ jR v1 V F H) := by
  obtain ⟨θ, sc, ai, al, az, fo, ⟨_, ⟨rfl, rfl⟩, _⟩, hT, hM, hK, hI, hR2, hS9, hO9, hU, hW⟩ := hL
  refine (c112 hM hK hI hi_1 hi_2 hR2).imp fun r v1 hq => ?_
  obtain ⟨⟨sc1, ai1, al1, az1, hM1, hK1, hI1, hF, hE⟩, _⟩ := hq
  exact ⟨jC_k hC hM1, jR_fr hR hM hM1 hK hF rfl rfl rfl rfl (by decide)⟩
theorem J113 (hL : lI L xs vh n p n2 p2 t g u w) (hC : jC vh V F H) (hR : jR vh V F H) {i1 : Int} (hi_1 : -2147483648 ≤ i1 ∧ i1 < 2147483648) : vm_Rp 0 0 113 [.ref 238, .int (vz i1)] vh (fun _ v1 => jC v1 V F H ∧ jR v1 V F H) := by
  obtain ⟨θ, sc, ai, al, az, fo, ⟨_, ⟨rfl, rfl⟩, _⟩, hT, hM, hK, hI, hR2, hS9, hO9, hU, hW⟩ := hL
  refine (c113 hM hK hI hi_1 hR2).imp fun r v1 hq => ?_
  obtain ⟨⟨sc1, ai1, al1, az1, hM1, hK1, hI1, hF, hE⟩, _⟩ := hq
  exact ⟨jC_k hC hM1, jR_fr hR hM hM1 hK hF rfl rfl rfl rfl (by decide)⟩
theorem J115 (hL : lI L xs vh n p n2 p2 t g u w) (hC : jC vh V F H) (hR : jR vh V F H) {i1 : Int} (hi_1 : -2147483648 ≤ i1 ∧ i1 < 2147483648) {i2 : Int} (hi_2 : -2147483648 ≤ i2 ∧ i2 < 2147483648) {i3 : Int} (hi_3 : -2147483648 ≤ i3 ∧ i3 < 2147483648) : vm_Rp 5 112 115 [.ref 238, .int (vz i1), .int (vz i2), .int (vz i3)] vh (fun _ v1 => jC v1 V F H ∧ jR v1 V F H) := by
  obtain ⟨θ, sc, ai, al, az, fo, ⟨_, ⟨rfl, rfl⟩, _⟩, hT, hM, hK, hI, hR2, hS9, hO9, hU, hW⟩ := hL
  refine (c115 hM hK hI hi_1 hi_2 hi_3 hR2).imp fun r v1 hq => ?_
  obtain ⟨⟨sc1, ai1, al1, az1, hM1, hK1, hI1, hF, hE⟩, _⟩ := hq
  exact ⟨jC_k hC hM1, jR_fr hR hM hM1 hK hF rfl rfl rfl rfl (by decide)⟩
theorem J116 (hL : lI L xs vh n p n2 p2 t g u w) (hC : jC vh V F H) (hR : jR vh V F H) {i1 : Int} (hi_1 : -2147483648 ≤ i1 ∧ i1 < 2147483648) {i2 : Int} (hi_2 : -2147483648 ≤ i2 ∧ i2 < 2147483648) {i3 : Int} (hi_3 : -2147483648 ≤ i3 ∧ i3 < 2147483648) : vm_Rp 5 112 116 [.ref 238, .int (vz i1), .int (vz i2), .int (vz i3)] vh (fun _ v1 => jC v1 V F H ∧ jR v1 V F H) := by
  obtain ⟨θ, sc, ai, al, az, fo, ⟨_, ⟨rfl, rfl⟩, _⟩, hT, hM, hK, hI, hR2, hS9, hO9, hU, hW⟩ := hL
  refine (c116 hM hK hI hi_1 hi_2 hi_3 hR2).imp fun r v1 hq => ?_
  obtain ⟨⟨sc1, ai1, al1, az1, hM1, hK1, hI1, hF, hE⟩, _⟩ := hq
  exact ⟨jC_k hC hM1, jR_fr hR hM hM1 hK hF rfl rfl rfl rfl (by decide)⟩
theorem J117 (hL : lI L xs vh n p n2 p2 t g u w) (hC : jC vh V F H) (hR : jR vh V F H) {i1 : Int} (hi_1 : -2147483648 ≤ i1 ∧ i1 < 2147483648) {l_2 : Int64} : vm_Rp 0 0 117 [.ref 238, .int (vz i1), .long l_2] vh (fun _ v1 => jC v1 V F H ∧ jR v1 V F H) := by
  obtain ⟨θ, sc, ai, al, az, fo, ⟨_, ⟨rfl, rfl⟩, _⟩, hT, hM, hK, hI, hR2, hS9, hO9, hU, hW⟩ := hL
  refine (c117 hM hK hI hi_1 hR2).imp fun r v1 hq => ?_
  obtain ⟨⟨sc1, ai1, al1, az1, hM1, hK1, hI1, hF, hE⟩, _⟩ := hq
  exact ⟨jC_k hC hM1, jR_fr hR hM hM1 hK hF rfl rfl rfl rfl (by decide)⟩
theorem J120 (hL : lI L xs vh n p n2 p2 t g u w) (hC : jC vh V F H) (hR : jR vh V F H) {i1 : Int} (hi_1 : -2147483648 ≤ i1 ∧ i1 < 2147483648) {i2 : Int} (hi_2 : -2147483648 ≤ i2 ∧ i2 < 2147483648) : vm_Rp 5 112 120 [.ref 238, .int (vz i1), .int (vz i2)] vh (fun _ v1 => jC v1 V F H ∧ jR v1 V F H) := by
  obtain ⟨θ, sc, ai, al, az, fo, ⟨_, ⟨rfl, rfl⟩, _⟩, hT, hM, hK, hI, hR2, hS9, hO9, hU, hW⟩ := hL
  refine (c120 hM hK hI hi_1 hi_2 hR2).imp fun r v1 hq => ?_
  obtain ⟨⟨sc1, ai1, al1, az1, hM1, hK1, hI1, hF, hE⟩, _⟩ := hq
  exact ⟨jC_k hC hM1, jR_fr hR hM hM1 hK hF rfl rfl rfl rfl (by decide)⟩
theorem J121 (hL : lI L xs vh n p n2 p2 t g u w) (hC : jC vh V F H) (hR : jR vh V F H) {i1 : Int} (hi_1 : -2147483648 ≤ i1 ∧ i1 < 2147483648) : vm_Rp 5 112 121 [.ref 238, .int (vz i1)] vh (fun _ v1 => jC v1 V F H ∧ jR v1 V F H) := by
  obtain ⟨θ, sc, ai, al, az, fo, ⟨_, ⟨rfl, rfl⟩, _⟩, hT, hM, hK, hI, hR2, hS9, hO9, hU, hW⟩ := hL
  refine (c121 hM hK hI hi_1 hR2).imp fun r v1 hq => ?_
  obtain ⟨⟨sc1, ai1, al1, az1, hM1, hK1, hI1, hF, hE⟩, _⟩ := hq
  exact ⟨jC_k hC hM1, jR_fr hR hM hM1 hK hF rfl rfl rfl rfl (by decide)⟩
-- end of them
end JY
