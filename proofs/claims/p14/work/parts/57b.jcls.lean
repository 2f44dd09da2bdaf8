/-! The class's calls: what they leave of jC. -/
section JX
variable {V : Nat → Int} {F H : Nat → Int32} {L : Nat} {xs : Nat → Int32} {vh : vm_H} {n p n2 p2 t : Int} {g : Int64} {u : D5u} {w : D5w} {U : Nat → Po} {T : T7}
theorem J44 (hL : lI L xs vh n p n2 p2 t g u w) (hC : jC vh V F H T) (hR : jR vh V F H T) {i1 : Int} (hi_1 : 0 ≤ i1 ∧ i1 ≤ 1) : vm_Rp 2 43 44 [.ref 1, .int (vz i1)] vh (fun _ v1 => jC v1 (vN n V) (fN n i1 F) H (tN n T) ∧ jR v1 V F H T) := by
  obtain ⟨Z, al, ai, az, mm, sk, hT, hk, ⟨rfl, rfl, rfl⟩, hfp, hH, hTc, hSt⟩ := hC
  obtain ⟨⟨j1, j2, j3⟩, j4⟩ := jl hL hT
  have hbd := lI_b hL
  refine (k44 hT hk hi_1 (by omega)).imp fun r v1 hq => ?_
  obtain ⟨Z1, ai1, az1, q, ⟨Za, aia, hap, hc⟩, rfl, hk1, hT1⟩ := hq
  refine ⟨?_, jR_k hR hT1⟩
  rcases hap with ⟨a1, a2, rfl, rfl, rfl⟩ | ⟨a1, a2, rfl, rfl, rfl⟩
  · rcases hc with ⟨_, rfl, rfl⟩ | ⟨c1, _⟩
    · unfold vN fN tN
      rw [if_neg (by omega), if_neg (by omega), if_neg (by omega)]
      exact ⟨_, _, _, _, _, _, tk_rf hT1, hk1, ⟨rfl, rfl, rfl⟩, hfp, hH, hTc, hSt⟩
    · exact absurd a2 c1
  · rcases hc with ⟨c1, _⟩ | ⟨_, c2⟩
    · omega
    · obtain ⟨⟨g1, g2⟩, g3, g4, g5⟩ := fg_0 c2
      unfold vN fN tN
      rw [if_pos (by omega), if_pos (by omega), if_pos (by omega)]
      refine jC_0 hT1 hk1 g1 g2 (fun i hi h16 => ?_) ?_ ?_ ?_ (tC_0 hTc (by rw [g3 2 (by decide) (by decide) (by decide), u2_s]; omega) (fun j hj => by rw [g3 1 (by decide) (by decide) (by decide), u2_af (by decide)]) (by rw [g3 224 (by decide) (by decide) (by decide), u2_af (by decide)]) g5 (fun _ _ => rfl))
      · rw [u2_af (by decide)]
        refine hH i ?_ h16
        rw [g3 1 (by decide) (by decide) (by decide), u2_af (by decide)] at hi
        exact hi
      · rw [g4, j1, u2_u1]
      · rw [j1, u2_u1]
      · rw [u2_af (by decide)]
theorem J45 (hL : lI L xs vh n p n2 p2 t g u w) (hC : jC vh V F H T) (hR : jR vh V F H T) {i1 : Int} (hi_1 : -2147483648 ≤ i1 ∧ i1 < 2147483648) {i2 : Int} (hi_2 : -2147483648 ≤ i2 ∧ i2 < 2147483648) : vm_Rp 4 91 45 [.ref 1, .int (vz i1), .int (vz i2)] vh (fun _ v1 => ∃ V1 T1, oR n i1 i2 V V1 T T1 ∧ jC v1 V1 F H T1 ∧ jR v1 V F H T) := by
  obtain ⟨Z, al, ai, az, mm, sk, hT, hk, ⟨rfl, rfl, rfl⟩, hfp, hH, hTc, hSt⟩ := hC
  obtain ⟨⟨j1, j2, j3⟩, j4⟩ := jl hL hT
  have hbd := lI_b hL
  have hu := lI_u hL
  have hO : onto (ai 5) n := by rw [j3]; exact hu.1
  refine (k45c hT hk hi_1 hi_2 (by omega) hO.1 (by omega)).imp fun r v1 hq => ?_
  obtain ⟨Z1, al1, ai1, q, hc, rfl, hk1, hT1⟩ := hq
  rcases hc with ⟨rfl, rfl, rfl, hc⟩ | ⟨f, aia, hv, hne, hf, ⟨hmw, _, ha, hmk⟩, hg⟩
  · refine ⟨ai1 5, T, Or.inl ⟨⟨rfl, rfl⟩, ?_⟩, ⟨_, _, _, _, _, _, tk_rf hT1, hk1, ⟨rfl, rfl, rfl⟩, hfp, hH, hTc, hSt⟩, jR_k hR hT1⟩
    rw [j1] at hc
    rcases hc with hc | hc | hc
    · exact Or.inl hc
    · refine Or.inl fun z => ?_
      obtain ⟨j, hj1, hj2⟩ := hO.2 i2 z.2.1 z.2.2
      exact hc j hj1 hj2
    · exact Or.inr hc
  · obtain ⟨⟨g1, g2⟩, g3, g4, g5⟩ := fg_0 hg
    rw [j1] at hv hf
    have hO1 : onto (aia 5) (Z 2 0) := by rw [ha, j1]; exact mvF_on hO (by omega) (by omega)
    obtain ⟨c, hc1, hc2⟩ := mv_c (by rw [j1]; exact hO) hO1 (by omega) hTc.2.1.1.1 hTc.2.1.1.2 hTc.2.1.2 hmk.1 hmk.2
    have e224 : Z1 224 = Z 224 := g3 224 (by decide) (by decide) (by decide)
    have hcK : c7K (Z 2 0).toNat Z1 al1 224 c := ⟨⟨by rw [e224]; exact hc1.1, hc1.2⟩, hc2.1⟩
    refine ⟨ai1 5, fgC T c, Or.inr ⟨f.toNat, ⟨by omega, hf.2, by omega⟩, hv, by rw [g4, ha], c, rfl, by rw [g4, ← j1]; exact hc2⟩, jC_0 hT1 hk1 g1 g2 (fun i hi h16 => ?_) rfl rfl rfl (by rw [g3 2 (by decide) (by decide) (by decide)]; exact tC_m hTc (fun j hj => by rw [g3 1 (by decide) (by decide) (by decide)]) hcK g5 (hmw 4 (by omega) (by decide) (by decide))), jR_k hR hT1⟩
    rw [g3 1 (by decide) (by decide) (by decide)] at hi
    exact hH i hi h16
theorem J46 (hL : lI L xs vh n p n2 p2 t g u w) (hC : jC vh V F H T) (hR : jR vh V F H T) : vm_Rp 0 0 46 [.ref 1] vh (fun _ v1 => jC v1 V F H T ∧ jR v1 V F H T ∧ ∀ i : Nat, p ≤ (i : Int) → i < 16 → H i = 0) := by
  obtain ⟨Z, al, ai, az, mm, sk, hT, hk, ⟨rfl, rfl, rfl⟩, hfp, hH, hTc, hSt⟩ := hC
  obtain ⟨⟨j1, j2, j3⟩, j4⟩ := jl hL hT
  have hbd := lI_b hL
  refine (k46 hT hk (by omega)).imp fun r v1 hq => ?_
  obtain ⟨Z1, q, hc, rfl, hk1, hT1⟩ := hq
  refine ⟨?_, jR_k hR hT1, fun i hi h16 => hH i (by omega) h16⟩
  rcases hc with ⟨a1, a2, rfl⟩ | ⟨a1, a2, rfl⟩
  · exact ⟨_, _, _, _, _, _, tk_rf hT1, hk1, ⟨rfl, rfl, rfl⟩, hfp, hH, hTc, hSt⟩
  · have e2 : u2 Z 1 0 (Z 1 0 + 1) 2 = Z 2 := u2_af (by decide)
    have e1 : u2 Z 1 0 (Z 1 0 + 1) 1 0 = Z 1 0 + 1 := u2_s
    refine ⟨_, _, _, _, _, _, tk_rf hT1, hk1, ⟨rfl, rfl, rfl⟩, ?_, fun i hi h16 => ?_, by rw [e2]; exact tC_f hTc (Nat.le_refl _) (fun j hj => u2_o (by omega)) (by rw [u2_af (by decide)]) (by rw [u2_af (by decide)]) (fun _ _ => rfl), ?_⟩
    · rw [e2]
      exact fp_f hfp (u2_af (by decide)) rfl rfl
    · rw [e1] at hi
      exact hH i (by omega) h16
    · rw [e2, e1, show (Z 1 0 + 1).toNat = (Z 1 0).toNat + 1 by omega]
      have hz : ¬ hyO (az 55) (Z 1 0).toNat = true := fun z => by
        have := hH (Z 1 0).toNat (by omega) (by omega)
        unfold hyO at z
        rw [this] at z
        exact absurd z (by decide)
      have hS2 : stC (Z 2 0).toNat ((Z 1 0).toNat + 1) (frO (ai 5) (az 3)) (hyO (az 55)) Z al mm T.2.2 := by
        revert hSt
        cases T.2.2 with
        | none => exact fun h => h
        | some s =>
          intro hSt
          obtain ⟨h0, hs, U, h1, h2⟩ := hSt
          have e : thP U (hyO (az 55)) ((Z 1 0).toNat + 1) = thP U (hyO (az 55)) (Z 1 0).toNat := th_n fun z => hz z.1
          refine ⟨h0, hs, U, fun i hi q => ?_, ?_⟩
          · by_cases qi : i = (Z 1 0).toNat
            · rw [qi] at q
              exact absurd q hz
            · exact h1 i (by omega) q
          · unfold dT at h2 ⊢
            rw [e]
            exact h2
      exact sC_f hS2 (u2_af (by decide)) (fun b hb => u2_af (by omega)) (fun _ _ => rfl) (fun i _ _ => ⟨by rw [u2_af (by omega)], rfl, rfl⟩) (u2_o (by decide)) (u2_o (by decide)) (u2_o (by decide)) (by rw [u2_af (by decide)]) rfl rfl
theorem J47 (hL : lI L xs vh n p n2 p2 t g u w) (hC : jC vh V F H T) (hR : jR vh V F H T) {i1 : Int} (hi_1 : -2147483648 ≤ i1 ∧ i1 < 2147483648) {l_2 : Int64} {i3 : Int} (hi_3 : -2147483648 ≤ i3 ∧ i3 < 2147483648) : vm_Rp 3 79 47 [.ref 1, .int (vz i1), .long l_2, .int (vz i3)] vh (fun r v1 => ∃ (T1 : T7) (q : Int), ((0 ≤ q ∧ q ≤ 1) ∧ r = some (.int (vz q)) ∧ tmR i1 l_2 H q T T1) ∧ jC v1 V F H T1 ∧ jR v1 V F H T) := by
  obtain ⟨Z, al, ai, az, mm, sk, hT, hk, ⟨rfl, rfl, rfl⟩, hfp, hH, hTc, hSt⟩ := hC
  obtain ⟨⟨j1, j2, j3⟩, j4⟩ := jl hL hT
  have hbd := lI_b hL
  have hu := lI_u hL
  have hO : onto (ai 5) n := by rw [j3]; exact hu.1
  refine (k47 hT hk hi_1 hi_3 (by omega) hO.1 (by omega) (fun i hi t ht => by
    obtain ⟨q1, q2, q3⟩ := j4 i (by omega)
    rw [q3]
    exact (hu.2 i (by omega)).2 t (by omega))).imp fun r v1 hq => ?_
  obtain ⟨Z1, al1, ai1, q, hc, rfl, hk1, hT1⟩ := hq
  rcases hc with ⟨rfl, rfl, rfl, hcq⟩ | ⟨h1, h2, h3, m, K, F1, tt, Za, had, rfl, rfl, hc⟩
  · exact ⟨T, q, ⟨by omega, rfl, Or.inl ⟨rfl, fun z => by omega⟩⟩, ⟨_, _, _, _, _, _, tk_rf hT1, hk1, ⟨rfl, rfl, rfl⟩, hfp, hH, hTc, hSt⟩, jR_k hR hT1⟩
  · have ez : ∀ b, b ≠ 7 + 3 * i1.toNat → u2 Z (7 + 3 * i1.toNat) 0 m b = Z b := fun b hb => u2_af hb
    have ea : ∀ b, b ≠ 7 + 3 * i1.toNat + 1 → b ≠ 7 + 3 * i1.toNat + 2 → uP al (7 + 3 * i1.toNat) K F1 b = al b := fun b b1 b2 => uP_o b1 b2
    rcases hc with ⟨hc, rfl, rfl⟩ | ⟨hq1, hq2, hc⟩
    · refine ⟨T, q, ⟨by omega, rfl, Or.inl ⟨rfl, fun z => by rcases hc with hc | ⟨_, hc⟩; omega; exact z.2.2 hc⟩⟩, ⟨_, _, _, _, _, _, tk_rf hT1, hk1, ⟨rfl, rfl, rfl⟩, ?_, ?_, by rw [ez 2 (by omega)]; exact tC_f hTc (Nat.le_refl _) (fun j hj => by rw [ez 1 (by omega)]) (by rw [ez 224 (by omega)]) (by rw [ez 227 (by omega)]) (fun b hb => ea b (by omega) (by omega)), ?_⟩, jR_k hR hT1⟩
      · rw [ez 2 (by omega)]
        exact fp_f hfp (ez 230 (by omega)) (ea 231 (by omega) (by omega)) (ea 232 (by omega) (by omega))
      · rw [ez 1 (by omega)]; exact hH
      · rw [ez 1 (by omega), ez 2 (by omega)]
        refine sC_f hSt (ez 217 (by omega)) (fun b hb => ez b (by omega)) (fun b hb => ea b (by omega) (by omega)) (fun i hi hy => ?_) (by rw [ez 1 (by omega)]) (by rw [ez 1 (by omega)]) (by rw [ez 1 (by omega)]) (by rw [ez 224 (by omega)]) (ea 225 (by omega) (by omega)) (ea 226 (by omega) (by omega))
        by_cases e : i = i1.toNat
        · subst e
          have hq0 : q = 0 := by
            rcases hc with hc | ⟨_, hc⟩
            · exact hc
            · unfold hyO at hy
              rw [hc] at hy
              exact absurd hy (by decide)
          have hs : m = Z (7 + 3 * i1.toNat) 0 ∧ K = al (7 + 3 * i1.toNat + 1) ∧ F1 = al (7 + 3 * i1.toNat + 2) := by
            rcases had with ⟨_, a1, a2, a3, _⟩ | ⟨_, _, ⟨_, a1, a2, a3, _⟩ | ⟨a, _⟩ | ⟨a, _⟩ | ⟨a, _⟩⟩
            · exact ⟨a1, a2, a3⟩
            · exact ⟨a1, a2, a3⟩
            · omega
            · omega
            · omega
          refine ⟨by rw [u2_s]; exact hs.1, ?_, ?_⟩
          · unfold uP
            rw [uA_o (by omega), uA_s]
            exact hs.2.1
          · unfold uP
            rw [uA_s]
            exact hs.2.2
        · exact ⟨by rw [ez _ (by omega)], ea _ (by omega) (by omega), ea _ (by omega) (by omega)⟩
    · obtain ⟨⟨g1, g2⟩, g3, g4, g5⟩ := fg_0 hc
      refine ⟨fgT T, q, ⟨by omega, rfl, Or.inr ⟨rfl, hq1, h3, hq2⟩⟩, jC_0 hT1 hk1 g1 g2 (fun i hi h16 => ?_) g4 rfl rfl (tC_0 hTc (by rw [g3 2 (by decide) (by decide) (by decide), ez 2 (by omega)]; exact Nat.le_refl _) (fun j hj => by rw [g3 1 (by decide) (by decide) (by decide), ez 1 (by omega)]) (by rw [g3 224 (by decide) (by decide) (by decide), ez 224 (by omega)]) g5 (fun b hb => ea b (by omega) (by omega))), jR_k hR hT1⟩
      rw [g3 1 (by decide) (by decide) (by decide), ez 1 (by omega)] at hi
      exact hH i hi h16
theorem J48 (hL : lI L xs vh n p n2 p2 t g u w) (hC : jC vh V F H T) (hR : jR vh V F H T) {i1 : Int} (hi_1 : -2147483648 ≤ i1 ∧ i1 < 2147483648) {i2 : Int} (hi_2 : 0 ≤ i2 ∧ i2 ≤ 1) : vm_Rp 2 43 48 [.ref 1, .int (vz i1), .int (vz i2)] vh (fun _ v1 => jC v1 V F (hN7 p i1 i2 H) (tU p i1 i2 H T) ∧ jR v1 V F H T) := by
  obtain ⟨Z, al, ai, az, mm, sk, hT, hk, ⟨rfl, rfl, rfl⟩, hfp, hH, hTc, hSt⟩ := hC
  obtain ⟨⟨j1, j2, j3⟩, j4⟩ := jl hL hT
  have hbd := lI_b hL
  refine (k48 hT hk hi_1 hi_2 (by omega)).imp fun r v1 hq => ?_
  obtain ⟨Z1, ai1, az1, q, hc, rfl, hk1, hT1⟩ := hq
  refine ⟨?_, jR_k hR hT1⟩
  rw [j2] at hc
  unfold hN7 tU
  rcases hc with ⟨_, hc, rfl, rfl, rfl⟩ | ⟨_, h1, h2, rfl, hc⟩
  · have hno : ¬ ((0 ≤ i1 ∧ i1 < p) ∧ az1 55 i1.toNat ≠ vz i2) := fun z => by
      rcases hc with hc | hc
      · exact hc z.1
      · exact z.2 hc.2
    rw [if_neg hno, if_neg hno]
    exact ⟨_, _, _, _, _, _, tk_rf hT1, hk1, ⟨rfl, rfl, rfl⟩, hfp, hH, hTc, hSt⟩
  · rw [if_pos ⟨h1, h2⟩, if_pos ⟨h1, h2⟩]
    obtain ⟨⟨g1, g2⟩, g3, g4, g5⟩ := fg_0 hc
    refine jC_0 hT1 hk1 g1 g2 (fun i hi h16 => ?_) g4 (u2_af (by decide)) u2_u1 (tC_0 hTc (by rw [g3 2 (by decide) (by decide) (by decide)]; exact Nat.le_refl _) (fun j hj => by rw [g3 1 (by decide) (by decide) (by decide)]) (by rw [g3 224 (by decide) (by decide) (by decide)]) g5 (fun _ _ => rfl))
    rw [g3 1 (by decide) (by decide) (by decide)] at hi
    rw [u2_o (by omega)]
    exact hH i hi h16
theorem J49 (hL : lI L xs vh n p n2 p2 t g u w) (hC : jC vh V F H T) (hR : jR vh V F H T) (hu : uW n u w U) : vm_Rp 6 160 49 [.ref 1] vh (fun r v1 => jC v1 V F H (tD n p V F H U T) ∧ jR v1 V F H T ∧ r = some (.int (vz (dA n p V F H U)))) := by
  obtain ⟨Z, al, ai, az, mm, sk, hT, hk, ⟨rfl, rfl, rfl⟩, hfp, hH, hTc, hSt⟩ := hC
  obtain ⟨⟨j1, j2, j3⟩, j4⟩ := jl hL hT
  have hbd := lI_b hL
  have ho := lI_u hL
  have hO : onto (ai 5) n := by rw [j3]; exact ho.1
  have hUK : usK n.toNat p.toNat U Z al := uW_K hu j4 (by omega)
  rw [j1, j2] at hSt
  have hcg : ∀ U1 : Nat → Po, (∀ i, i < p.toNat → hyO (az 55) i = true → pL Z al (7 + 3 * i) (U1 i) ∧ gk n.toNat (U1 i)) → thP U1 (hyO (az 55)) p.toNat = thP U (hyO (az 55)) p.toNat := fun U1 h1 => th_cg _ fun i hi q => pL_u (h1 i hi q).1 (hUK i hi).1 (h1 i hi q).2 (hUK i hi).2 (by omega)
  refine (rp_and (x49 hL) (k49 hT hk hUK (by omega) (by omega) (by omega) (by omega) hO.1 (rfl : frK az ai = frO (ai 5) (az 3)))).imp fun r v1 hq => ?_
  obtain ⟨⟨⟨n1, p1, _, hL1⟩, _⟩, Z1, al1, ai1, mm1, sk1, hc, hk1, hT1⟩ := hq
  have e5 : ai1 5 = ai 5 := by rw [(jl hL1 hT1).1.2.2, j3]
  have hc : ((thP U (hyO (az 55)) p.toNat).2 = 0 ∧ r = some (.int (vz (-1))) ∧ Z1 = Z ∧ al1 = al) ∨ ((thP U (hyO (az 55)) p.toNat).2 ≠ 0 ∧ 0 < Z 217 0 ∧ Z1 = u2 Z 227 0 0 ∧ al1 = al ∧ ai1 = ai ∧ mm1 = mm ∧ r = some (.int (vz 1))) ∨ ((thP U (hyO (az 55)) p.toNat).2 ≠ 0 ∧ Z 217 0 ≤ 0 ∧ deO (frO (ai 5) (az 3)) n.toNat (dT (frO (ai 5) (az 3)) n.toNat U (hyO (az 55)) p.toNat) Z Z1 al al1 ai ai1 mm1 ∧ r = some (.int (vz (dT (frO (ai 5) (az 3)) n.toNat U (hyO (az 55)) p.toNat).1.1))) := hc
  unfold dA tD
  rcases hc with ⟨c1, rfl, rfl, rfl⟩ | ⟨c1, c2, rfl, rfl, rfl, rfl, rfl⟩ | ⟨c1, c2, c3, rfl⟩
  · rw [if_pos c1, if_pos c1]
    refine ⟨⟨_, _, _, _, _, _, tk_rf hT1, hk1, ⟨e5, rfl, rfl⟩, hfp, hH, hTc, ?_⟩, jR_k hR hT1, rfl⟩
    rw [j1, j2]
    revert hSt
    cases T.2.2 with
    | none => exact fun h => h
    | some s =>
      intro hSt
      obtain ⟨h0, hs, U1, h1, h2, _⟩ := hSt
      rw [hcg U1 h1] at h2
      exact absurd c1 h2.1
  · rw [if_neg c1, if_neg c1]
    cases e9 : T.2.2 with
    | none =>
      rw [e9] at hSt
      have hSt : Z 217 0 = 0 := hSt
      omega
    | some s =>
      rw [e9] at hSt
      obtain ⟨h0, hs, U1, h1, h2, h3, h4, h5⟩ := id hSt
      unfold dT at h2 h3 h4 h5
      rw [hcg U1 h1] at h2 h3 h4 h5
      refine ⟨⟨_, _, _, _, _, _, tk_rf hT1, hk1, ⟨rfl, rfl, rfl⟩, ?_, ?_, ⟨⟨?_, ?_, ?_, ?_⟩, ?_, c7K_0 u2_s, hTc.2.2.2⟩, ?_⟩, jR_k hR hT1, ?_⟩
      · rw [u2_af (a := 227) (b := 2) (by decide)]
        exact fp_f hfp (u2_af (by decide)) rfl rfl
      · rw [u2_af (by decide)]; exact hH
      · rw [u2_af (by decide)]; exact h4.2.2
      · rw [u2_af (by decide)]; exact h4.1
      · rw [u2_af (by decide)]; exact h4.2.1
      · rw [u2_af (by decide)]; exact hTc.1.2.2.2
      · rw [u2_af (a := 227) (b := 2) (by decide), j1]; exact c7K_f h5 (Nat.le_refl _) (by rw [u2_af (by decide)]) rfl rfl
      · rw [u2_af (a := 227) (b := 2) (by decide), u2_af (a := 227) (b := 1) (by decide), j1, j2]
        show stC _ _ _ _ _ _ _ (if (deP _ _ _ _).1.1 = 1 then some _ else none)
        rw [if_pos h2.2]
        have h3 : s = dS (frO (ai1 5) (az 3)) n.toNat (dT (frO (ai1 5) (az 3)) n.toNat U (hyO (az 55)) p.toNat) := h3
        rw [← h3]
        exact sC_f hSt (u2_af (by decide)) (fun b hb => u2_af (by omega)) (fun _ _ => rfl) (fun i _ _ => ⟨by rw [u2_af (by omega)], rfl, rfl⟩) (by rw [u2_af (by decide)]) (by rw [u2_af (by decide)]) (by rw [u2_af (by decide)]) (by rw [u2_af (by decide)]) rfl rfl
      · show _ = some (Value.int (vz (deP _ _ _ _).1.1))
        rw [h2.2]
  · rw [if_neg c1, if_neg c1]
    obtain ⟨d1, d2, d3, d4, d5, d6⟩ := c3
    have e2 : Z1 2 = Z 2 := d3 2 (by decide) (by omega)
    have ecn : c7K n.toNat Z1 al1 224 (cdL (dT (frO (ai 5) (az 3)) n.toNat U (hyO (az 55)) p.toNat).1.2.2.2.2) := by
      have h9 := d1.2.2.2.2.1
      revert h9
      cases (dT (frO (ai 5) (az 3)) n.toNat U (hyO (az 55)) p.toNat).1.2.2.2.2 with
      | none => exact fun h => c7K_0 h
      | some g => exact fun h => h
    refine ⟨⟨Z1, al1, ai1, az, mm1, sk1, tk_rf hT1, hk1, ⟨e5, rfl, rfl⟩, ?_, ?_, ⟨⟨d1.1.2.2.1, d1.1.1.1, d1.1.2.1.1, d4.2.trans hTc.1.2.2.2⟩, by rw [e2, j1]; exact ecn, c7K_0 d1.2.2.2.2.2, by rw [d5 4 (by omega)]; exact hTc.2.2.2⟩, ?_⟩, jR_k hR hT1, rfl⟩
    · rw [e2]
      exact fp_f hfp (d3 230 (by decide) (by omega)) (d5 231 (by omega)) (d5 232 (by omega))
    · rw [d4.1]; exact hH
    · rw [e2, d4.1, j1, j2]
      show stC _ _ _ _ _ _ _ (if (dT (frO (ai 5) (az 3)) n.toNat U (hyO (az 55)) p.toNat).1.1 = 1 then some _ else none)
      by_cases z1 : (dT (frO (ai 5) (az 3)) n.toNat U (hyO (az 55)) p.toNat).1.1 = 1
      · rw [if_pos z1]
        have hne := dS_ne (fr := frO (ai 5) (az 3)) (nv := n.toNat) c1
        have hmb := d1.2.2.2.1 z1
        refine ⟨?_, ⟨d1.2.2.1 (by rw [z1]; decide), hmb, d1.1.1.2⟩, U, fun i hi _ => ⟨pL_cg (hUK i hi).1 (by rw [d3 _ (by omega) (by omega)]) (fun t _ => ⟨by rw [d5 _ (by omega)], by rw [d5 _ (by omega)]⟩), (hUK i hi).2⟩, ⟨c1, z1⟩, rfl, ⟨d1.1.1.1, d1.1.2.1.1, d1.1.2.2.1⟩, ecn⟩
        have h9 := hmb.1
        show 0 < Z1 217 0
        rw [h9]
        have hne : 1 ≤ (bsP (frO (ai 5) (az 3)) n.toNat (dT (frO (ai 5) (az 3)) n.toNat U (hyO (az 55)) p.toNat).1.2.1 (dT (frO (ai 5) (az 3)) n.toNat U (hyO (az 55)) p.toNat).1.2.2.1 8 []).length := hne
        omega
      · rw [if_neg z1]
        exact d2 z1
theorem J50 (hL : lI L xs vh n p n2 p2 t g u w) (hC : jC vh V F H T) (hR : jR vh V F H T) (hu : uW n u w U) {i1 : Int} (hi_1 : -2147483648 ≤ i1 ∧ i1 < 2147483648) : vm_Rp 4 115 50 [.ref 1, .int (vz i1)] vh (fun r v1 => jC v1 V F H (tP n p V F U i1 T) ∧ jR v1 V F H T ∧ r = some (.int (vz (pA n p V F U i1 T)))) := by
  obtain ⟨Z, al, ai, az, mm, sk, hT, hk, ⟨rfl, rfl, rfl⟩, hfp, hH, hTc, hSt⟩ := hC
  obtain ⟨⟨j1, j2, j3⟩, j4⟩ := jl hL hT
  have hbd := lI_b hL
  have hUK : usK n.toNat p.toNat U Z al := uW_K hu j4 (by omega)
  have h217 := sC_217 hSt
  unfold pA tP
  cases e9 : T.2.2 with
  | none =>
    have hSt0 := hSt
    rw [e9] at hSt0
    have hSt0 : Z 217 0 = 0 := hSt0
    refine (k50 hT hk hi_1 (fr := frO (ai 5) (az 3)) (nv := n.toNat) (R := fun _ => []) (c := 0) (B := []) (fun z => absurd z (by omega)) (by omega) hUK (by omega) (by omega) h217).imp fun r v1 hq => ?_
    obtain ⟨Z1, al1, ai1, sk1, q, hc, rfl, hk1, hT1⟩ := hq
    rcases hc with ⟨rfl, _, rfl, rfl, rfl⟩ | ⟨h1, h2, _⟩
    · exact ⟨⟨_, _, _, _, _, _, tk_rf hT1, hk1, ⟨rfl, rfl, rfl⟩, hfp, hH, hTc, hSt⟩, jR_k hR hT1, rfl⟩
    · omega
  | some s =>
    have hSt0 := hSt
    rw [e9] at hSt0
    have h0 := hSt0.1
    have hset : setK (frO (ai 5) (az 3)) n.toNat s.1 s.2.1 s.2.2 Z al mm := by
      rw [← j1]
      exact fun _ => hSt0.2.1
    refine (k50 hT hk hi_1 hset (by omega) hUK (by omega) (by omega) h217).imp fun r v1 hq => ?_
    obtain ⟨Z1, al1, ai1, sk1, q, hc, rfl, hk1, hT1⟩ := hq
    dsimp only
    rw [j2] at hc
    rcases hc with ⟨rfl, hno, rfl, rfl, rfl⟩ | ⟨h1, h2, ⟨d1, d2, d3, d4⟩, h15, hc⟩
    · have hno : ¬ (0 ≤ i1 ∧ i1 < p) := by omega
      rw [if_neg hno, if_neg hno]
      exact ⟨⟨_, _, _, _, _, _, tk_rf hT1, hk1, ⟨rfl, rfl, rfl⟩, hfp, hH, hTc, hSt⟩, jR_k hR hT1, rfl⟩
    · rw [if_pos h1, if_pos h1]
      have e2 : Z1 2 = Z 2 := d1 2 (by decide) (by decide) (by decide) (by decide) (by decide)
      have e217 : Z1 217 = Z 217 := d1 217 (by decide) (by decide) (by decide) (by decide) (by decide)
      have e224 : Z1 224 = Z 224 := d1 224 (by decide) (by decide) (by decide) (by decide) (by decide)
      have e1 : ∀ j, j ≠ 2 → j ≠ 5 → Z1 1 j = Z 1 j := d2
      have hr : c7K n.toNat Z1 al1 227 (if (rP (frO (ai 5) (az 3)) n.toNat s (U i1.toNat)).1 = true then (rP (frO (ai 5) (az 3)) n.toNat s (U i1.toNat)).2.2 else []) ∧ q = if (rP (frO (ai 5) (az 3)) n.toNat s (U i1.toNat)).1 = true then (if (rP (frO (ai 5) (az 3)) n.toNat s (U i1.toNat)).2.2.length = 0 then 1 else 0) else 2 := by
        rcases hc with ⟨a1, a2, a3, _⟩ | ⟨a1, a2, a3, _⟩
        · have a1 : (rP (frO (ai 5) (az 3)) n.toNat s (U i1.toNat)).1 = false := a1
          rw [a1]
          exact ⟨c7K_0 a3, a2⟩
        · have a1 : (rP (frO (ai 5) (az 3)) n.toNat s (U i1.toNat)).1 = true := a1
          rw [if_pos a1, if_pos a1]
          refine ⟨a3, ?_⟩
          rcases a2 with ⟨b1, b2⟩ | ⟨b1, b2⟩
          · rw [if_pos (by show (rP (frO (ai 5) (az 3)) n.toNat s (U i1.toNat)).2.2.length = 0; rw [show (rP (frO (ai 5) (az 3)) n.toNat s (U i1.toNat)).2.2 = [] from b2]; rfl)]
            exact b1
          · rw [if_neg (fun z => b2 (List.eq_nil_of_length_eq_zero z))]
            exact b1
      refine ⟨⟨Z1, al1, ai1, az, mm, sk1, tk_rf hT1, hk1, ⟨d4 5 (by decide) (by decide), rfl, rfl⟩, ?_, by rw [e1 0 (by decide) (by decide)]; exact hH, ⟨⟨(e1 3 (by decide) (by decide)).trans hTc.1.1, (e1 1 (by decide) (by decide)).trans hTc.1.2.1, (e1 4 (by decide) (by decide)).trans hTc.1.2.2.1, h15⟩, by rw [e2]; exact c7K_f hTc.2.1 (Nat.le_refl _) (by rw [e224]) (d3 225 (by decide) (by decide) (by decide) (by decide) (by decide) (by decide) (by decide)) (d3 226 (by decide) (by decide) (by decide) (by decide) (by decide) (by decide) (by decide)), by rw [e2, j1]; exact hr.1, by rw [d3 4 (by decide) (by decide) (by decide) (by decide) (by decide) (by decide) (by decide)]; exact hTc.2.2.2⟩, ?_⟩, jR_k hR hT1, by rw [hr.2]⟩
      · rw [e2]
        rcases hc with ⟨_, _, _, q1, q2, q3⟩ | ⟨_, _, _, q1⟩
        · exact fp_f hfp q1 q2 q3
        · exact ⟨_, q1, by rw [j1]; exact (hUK i1.toNat (by omega)).2⟩
      · rw [e2, e1 0 (by decide) (by decide)]
        exact sC_f hSt0 e217 (fun b hb => d1 b (by omega) (by omega) (by omega) (by omega) (by omega)) (fun b hb => d3 b (by omega) (by omega) (by omega) (by omega) (by omega) (by omega) (t14x b hb)) (fun i hi _ => ⟨by rw [d1 _ (by omega) (by omega) (by omega) (by omega) (by omega)], d3 _ (by omega) (by omega) (by omega) (by omega) (by omega) (by omega) (t7 i (by omega)).1, d3 _ (by omega) (by omega) (by omega) (by omega) (by omega) (by omega) (t7 i (by omega)).2⟩) (e1 1 (by decide) (by decide)) (e1 3 (by decide) (by decide)) (e1 4 (by decide) (by decide)) (by rw [e224]) (d3 225 (by decide) (by decide) (by decide) (by decide) (by decide) (by decide) (by decide)) (d3 226 (by decide) (by decide) (by decide) (by decide) (by decide) (by decide) (by decide))
theorem jC_lo {Z Z1 : Nat → Nat → Int} {al al1 : Nat → Nat → Int64} {ai : Nat → Nat → Int} {az : Nat → Nat → Int32} {mm : Nat → Option Nat} {sk : Nat} {v0 v1 : vm_H} (hT1 : tk Z1 al1 ai az mm sk v0 v1) (hk1 : kn Z1) (hl : loF Z Z1 al al1) (hp : Z 1 0 ≤ 16) (hfp : ∃ fp, pL Z al 230 fp ∧ gk (Z 2 0).toNat fp) (hH : ∀ i : Nat, Z 1 0 ≤ (i : Int) → i < 16 → az 55 i = 0) (hTc : tC (Z 2 0).toNat Z al T) (hSt : stC (Z 2 0).toNat (Z 1 0).toNat (frO (ai 5) (az 3)) (hyO (az 55)) Z al mm T.2.2) : jC v1 (ai 5) (az 3) (az 55) T := by
  have e : ∀ b, b ≠ 219 → b ≠ 234 → Z1 b = Z b := hl.1
  refine ⟨Z1, al1, ai, az, mm, sk, tk_rf hT1, hk1, ⟨rfl, rfl, rfl⟩, ?_, by rw [e 1 (by decide) (by decide)]; exact hH, by rw [e 2 (by decide) (by decide)]; exact tC_f hTc (Nat.le_refl _) (fun j _ => by rw [e 1 (by decide) (by decide)]) (by rw [e 224 (by decide) (by decide)]) (by rw [e 227 (by decide) (by decide)]) (fun b hb => hl.2 b (by omega) (by omega) (by rcases hb with rfl | rfl | rfl | rfl | rfl <;> decide)), ?_⟩
  · rw [e 2 (by decide) (by decide)]
    exact fp_f hfp (e 230 (by decide) (by decide)) (hl.2 231 (by decide) (by decide) (by decide)) (hl.2 232 (by decide) (by decide) (by decide))
  · rw [e 2 (by decide) (by decide), e 1 (by decide) (by decide)]
    exact sC_f hSt (e 217 (by decide) (by decide)) (fun b hb => e b (by omega) (by omega)) (fun b hb => hl.2 b (by omega) (by omega) (t14x b hb)) (fun i hi _ => ⟨by rw [e _ (by omega) (by omega)], hl.2 _ (by omega) (by omega) (t7 i (by omega)).1, hl.2 _ (by omega) (by omega) (t7 i (by omega)).2⟩) (by rw [e 1 (by decide) (by decide)]) (by rw [e 1 (by decide) (by decide)]) (by rw [e 1 (by decide) (by decide)]) (by rw [e 224 (by decide) (by decide)]) (hl.2 225 (by decide) (by decide) (by decide)) (hl.2 226 (by decide) (by decide) (by decide))
theorem J53 (hL : lI L xs vh n p n2 p2 t g u w) (hC : jC vh V F H T) (hR : jR vh V F H T) {i1 : Int} (hi_1 : -2147483648 ≤ i1 ∧ i1 < 2147483648) {i2 : Int} (hi_2 : -2147483648 ≤ i2 ∧ i2 < 2147483648) {i3 : Int} (hi_3 : -2147483648 ≤ i3 ∧ i3 < 2147483648) : vm_Rp 3 69 53 [.ref 1, .int (vz i1), .int (vz i2), .int (vz i3)] vh (fun _ v1 => jC v1 V F H T ∧ jR v1 V F H T) := by
  obtain ⟨Z, al, ai, az, mm, sk, hT, hk, ⟨rfl, rfl, rfl⟩, hfp, hH, hTc, hSt⟩ := hC
  obtain ⟨⟨j1, j2, j3⟩, j4⟩ := jl hL hT
  have hbd := lI_b hL
  obtain ⟨R, c, B, hset⟩ := sC_set hSt
  refine (k53 hT hk hi_1 hi_2 hi_3 hset (by omega)).imp fun r v1 hq => ?_
  obtain ⟨Z1, al1, q, hl, rfl, hk1, hT1⟩ := hq
  exact ⟨jC_lo hT1 hk1 hl (by omega) hfp hH hTc hSt, jR_k hR hT1⟩
theorem J54 (hL : lI L xs vh n p n2 p2 t g u w) (hC : jC vh V F H T) (hR : jR vh V F H T) {i1 : Int} (hi_1 : -2147483648 ≤ i1 ∧ i1 < 2147483648) {i2 : Int} (hi_2 : -2147483648 ≤ i2 ∧ i2 < 2147483648) {i3 : Int} (hi_3 : -2147483648 ≤ i3 ∧ i3 < 2147483648) : vm_Rp 3 69 54 [.ref 1, .int (vz i1), .int (vz i2), .int (vz i3)] vh (fun _ v1 => jC v1 V F H T ∧ jR v1 V F H T) := by
  obtain ⟨Z, al, ai, az, mm, sk, hT, hk, ⟨rfl, rfl, rfl⟩, hfp, hH, hTc, hSt⟩ := hC
  obtain ⟨⟨j1, j2, j3⟩, j4⟩ := jl hL hT
  have hbd := lI_b hL
  have hu := lI_u hL
  have hO : onto (ai 5) n := by rw [j3]; exact hu.1
  obtain ⟨R, c, B, hset⟩ := sC_set hSt
  refine (k54 hT hk hi_1 hi_2 hi_3 hset (by omega) (by omega) hO.1).imp fun r v1 hq => ?_
  obtain ⟨Z1, al1, q, hl, rfl, hk1, hT1⟩ := hq
  exact ⟨jC_lo hT1 hk1 hl (by omega) hfp hH hTc hSt, jR_k hR hT1⟩
theorem J56 (hL : lI L xs vh n p n2 p2 t g u w) (hC : jC vh V F H T) (hR : jR vh V F H T) {i1 : Int} (hi_1 : -2147483648 ≤ i1 ∧ i1 < 2147483648) {i2 : Int} (hi_2 : -2147483648 ≤ i2 ∧ i2 < 2147483648) : vm_Rp 3 73 56 [.ref 1, .int (vz i1), .int (vz i2)] vh (fun _ v1 => jC v1 V F H T ∧ jR v1 V F H T) := by
  obtain ⟨Z, al, ai, az, mm, sk, hT, hk, ⟨rfl, rfl, rfl⟩, hfp, hH, hTc, hSt⟩ := hC
  obtain ⟨⟨j1, j2, j3⟩, j4⟩ := jl hL hT
  have hbd := lI_b hL
  have hu := lI_u hL
  have hO : onto (ai 5) n := by rw [j3]; exact hu.1
  obtain ⟨R, c, B, hset⟩ := sC_set hSt
  refine (k56 hT hk hi_1 hi_2 hset (by omega) (by omega) hO.1).imp fun r v1 hq => ?_
  obtain ⟨Z1, al1, q, hl, rfl, hk1, hT1⟩ := hq
  exact ⟨jC_lo hT1 hk1 hl (by omega) hfp hH hTc hSt, jR_k hR hT1⟩
theorem J57 (hL : lI L xs vh n p n2 p2 t g u w) (hC : jC vh V F H T) (hR : jR vh V F H T) {i1 : Int} (hi_1 : -2147483648 ≤ i1 ∧ i1 < 2147483648) : vm_Rp 3 92 57 [.ref 1, .int (vz i1)] vh (fun _ v1 => jC v1 V F H T ∧ jR v1 V F H T) := by
  obtain ⟨Z, al, ai, az, mm, sk, hT, hk, ⟨rfl, rfl, rfl⟩, ⟨fp, hf1, hf2⟩, hH, hTc, hSt⟩ := hC
  obtain ⟨⟨j1, j2, j3⟩, j4⟩ := jl hL hT
  have hbd := lI_b hL
  have hu := lI_u hL
  have hO : onto (ai 5) n := by rw [j3]; exact hu.1
  obtain ⟨R, c, B, hset⟩ := sC_set hSt
  refine (k57 hT hk hi_1 hset (by omega) hO.1 (by omega) hf1 hf2).imp fun r v1 hq => ?_
  obtain ⟨Z1, al1, sk1, q, hl, rfl, hk1, hT1⟩ := hq
  exact ⟨jC_lo hT1 hk1 hl (by omega) ⟨fp, hf1, hf2⟩ hH hTc hSt, jR_k hR hT1⟩
theorem J55 (hL : lI L xs vh n p n2 p2 t g u w) (hC : jC vh V F H T) (hR : jR vh V F H T) {i1 : Int} (hi_1 : -2147483648 ≤ i1 ∧ i1 < 2147483648) {l_2 : Int64} : vm_Rp 1 21 55 [.ref 1, .int (vz i1), .long l_2] vh (fun _ v1 => jC v1 V F H (pnT n i1 l_2 T) ∧ jR v1 V F H T) := by
  obtain ⟨Z, al, ai, az, mm, sk, hT, hk, ⟨rfl, rfl, rfl⟩, hfp, hH, hTc, hSt⟩ := hC
  obtain ⟨⟨j1, j2, j3⟩, j4⟩ := jl hL hT
  have hbd := lI_b hL
  refine (k55 hT hk hi_1 (by omega)).imp fun r v1 hq => ?_
  obtain ⟨al1, q, hc, rfl, hT1⟩ := hq
  refine ⟨?_, jR_k hR hT1⟩
  rw [j1] at hc
  unfold pnT
  have ea : ∀ b, b ≠ 4 → al1 b = al b := fun b hb => by
    rcases hc with ⟨_, _, rfl⟩ | ⟨_, _, rfl⟩
    · rfl
    · exact uA_o hb
  have fin : ∀ T1 : T7, T1.2.2 = T.2.2 → tC (Z 2 0).toNat Z al1 T1 → jC v1 (ai 5) (az 3) (az 55) T1 := fun T1 e h => ⟨Z, al1, ai, az, mm, sk, tk_rf hT1, hk, ⟨rfl, rfl, rfl⟩, fp_f hfp rfl (ea 231 (by decide)) (ea 232 (by decide)), hH, h, by rw [e]; exact sC_f hSt rfl (fun _ _ => rfl) (fun b hb => ea b (by omega)) (fun i _ _ => ⟨rfl, ea _ (by omega), ea _ (by omega)⟩) rfl rfl rfl rfl (ea 225 (by decide)) (ea 226 (by decide))⟩
  rcases hc with ⟨_, h1, rfl⟩ | ⟨_, h1, rfl⟩
  · rw [if_neg h1]
    exact fin T rfl hTc
  · rw [if_pos h1]
    obtain ⟨a1, a5, a6, a7⟩ := hTc
    exact fin _ rfl ⟨a1, c7K_f a5 (Nat.le_refl _) rfl (ea 225 (by decide)) (ea 226 (by decide)), c7K_f a6 (Nat.le_refl _) rfl (ea 228 (by decide)) (ea 229 (by decide)), by rw [uA_s]; exact ptE_u a7⟩
theorem J51 (hL : lI L xs vh n p n2 p2 t g u w) (hC : jC vh V F H T) (hR : jR vh V F H T) {i1 : Int} (hi_1 : -2147483648 ≤ i1 ∧ i1 < 2147483648) {i2 : Int} (hi_2 : -2147483648 ≤ i2 ∧ i2 < 2147483648) : vm_Rp 2 42 51 [.ref 1, .int (vz i1), .int (vz i2)] vh (fun _ v1 => jC v1 V F H T ∧ jR v1 V F H T) := by
  obtain ⟨θ, sc, ai, al, az, fo, _, hT, _⟩ := hL
  refine (c51 rfl hT hi_1 hi_2).imp fun r v1 hq => ?_
  obtain ⟨rfl, _⟩ := hq
  exact ⟨hC, hR⟩
theorem J52 (hL : lI L xs vh n p n2 p2 t g u w) (hC : jC vh V F H T) (hR : jR vh V F H T) {i1 : Int} (hi_1 : -2147483648 ≤ i1 ∧ i1 < 2147483648) : vm_Rp 1 22 52 [.ref 1, .int (vz i1)] vh (fun _ v1 => jC v1 V F H T ∧ jR v1 V F H T) := by
  obtain ⟨θ, sc, ai, al, az, fo, _, hT, _⟩ := hL
  refine (c52 rfl hT hi_1).imp fun r v1 hq => ?_
  obtain ⟨rfl, _⟩ := hq
  exact ⟨hC, hR⟩
end JX
