theorem vm_but_tr {n : Nat} {v1 v2 v3 : vm_H} (h1 : vm_but n v1 v2) (h2 : vm_but n v2 v3) : vm_but n v1 v3 := ⟨h2.1.trans h1.1, fun m hm => (h2.2 m hm).trans (h1.2 m hm)⟩
set_option maxRecDepth 100000 in
set_option maxHeartbeats 4000000 in
theorem k34 {Z : Nat → Nat → Int} {al : Nat → Nat → Int64} {ai : Nat → Nat → Int} {az : Nat → Nat → Int32} {mm : Nat → Option Nat} {sk : Nat} {v0 vh : vm_H} (hM : tk Z al ai az mm sk v0 vh) : vm_Rp 0 0 34 [.ref 219] vh (fun r v1 => tk Z al ai az mm (2 - sk) v0 v1 ∧ r = none) := by
  have e0 := tk_stp hM
  have hs := tk_k hM
  refine w_in (m := 2) ?_
  show vm_Wp _ _ _ 0 [some (.ref 219), none, none] [] _ _
  refine w_ldA e34_0 (fun _ => rfl) rfl ?_
  refine w_get e34_1 e0 rfl ?_
  refine w_stA (j := 1) (A1 := [some (.ref 219), some (.ref (220 + sk)), none]) e34_4 (fun _ => rfl) (by decide) rfl ?_
  refine w_ldA e34_5 (fun _ => rfl) rfl ?_
  refine w_get e34_6 e0 rfl ?_
  refine w_stA (j := 2) (A1 := [some (.ref 219), some (.ref (220 + sk)), some (.ref (221 + sk))]) e34_9 (fun _ => rfl) (by decide) rfl ?_
  refine w_ldA e34_10 (fun _ => rfl) rfl ?_
  refine w_ldA e34_11 (fun _ => rfl) rfl ?_
  refine w_get e34_12 e0 rfl ?_
  refine w_put e34_15 e0 (Nat.le_of_ble_eq_true rfl) rfl (fun v1 b1 e1 => ?_)
  have e1 : vm_at v1 219 = some (.inr (3, [.ref (222 - sk), .ref (221 + sk), .ref (222 - sk), .ref (223 - sk), .int (vz (Z 219 0))])) := e1
  refine w_ldA e34_18 (fun _ => rfl) rfl ?_
  refine w_ldA e34_19 (fun _ => rfl) rfl ?_
  refine w_get e34_20 e1 rfl ?_
  refine w_put e34_23 e1 (Nat.le_of_ble_eq_true rfl) rfl (fun v2 b2 e2 => ?_)
  have e2 : vm_at v2 219 = some (.inr (3, [.ref (222 - sk), .ref (223 - sk), .ref (222 - sk), .ref (223 - sk), .int (vz (Z 219 0))])) := e2
  have b2 := vm_but_tr b1 b2
  refine w_ldA e34_26 (fun _ => rfl) rfl ?_
  refine w_ldA e34_27 (fun _ => rfl) rfl ?_
  refine w_put e34_28 e2 (Nat.le_of_ble_eq_true rfl) rfl (fun v3 b3 e3 => ?_)
  have e3 : vm_at v3 219 = some (.inr (3, [.ref (222 - sk), .ref (223 - sk), .ref (220 + sk), .ref (223 - sk), .int (vz (Z 219 0))])) := e3
  have b3 := vm_but_tr b2 b3
  refine w_ldA e34_31 (fun _ => rfl) rfl ?_
  refine w_ldA e34_32 (fun _ => rfl) rfl ?_
  refine w_put e34_33 e3 (Nat.le_of_ble_eq_true rfl) rfl (fun v4 b4 e4 => ?_)
  have e4 : vm_at v4 219 = some (.inr (3, [.ref (222 - sk), .ref (223 - sk), .ref (220 + sk), .ref (221 + sk), .int (vz (Z 219 0))])) := e4
  have b4 := vm_but_tr b3 b4
  refine w_rv e34_36 rfl ⟨tk_S hM (by omega) b4 ?_, rfl⟩
  rw [show 220 + (2 - sk) = 222 - sk by omega, show 221 + (2 - sk) = 223 - sk by omega, show 222 - (2 - sk) = 220 + sk by omega, show 223 - (2 - sk) = 221 + sk by omega]
  exact e4
set_option maxRecDepth 100000 in
set_option maxHeartbeats 4000000 in
theorem k33_L {Z : Nat → Nat → Int} {al : Nat → Nat → Int64} {ai : Nat → Nat → Int} {az : Nat → Nat → Int32} {mm : Nat → Option Nat} {sk : Nat} {v0 : vm_H} (hk : kn Z) {l_1 : Int64} {l_2 : Int64} {a3 : Nat} (ha_3 : ty a3 = 1) {i4 : Int} (hi_4 : -2147483648 ≤ i4 ∧ i4 < 2147483648) {i5 : Int} (hi_5 : -2147483648 ≤ i5 ∧ i5 < 2147483648) {A f : Po} {Nk p lo nv : Nat} (hsk : sk = 0 ∨ sk = 2) (hL : pL Z al a3 f) (hg : gk nv f) (hn8 : nv ≤ 8) (hS : pS Z al sk A) (hk1 : l_1 = Int64.ofNat Nk) (hp : i4 = (p : Int) ∧ p < 8) (hl : i5 = (lo : Int)) (hNk : ∀ x, x ∈ f → x.1 + Nk < 2 ^ 63) (hroom : Z 219 0 + Z a3 0 ≤ 3660) : ∀ N : Nat, (∀ (vh : vm_H) (al_ : Nat → Nat → Int64) (x8 : Int) (x9 : Int) (x10 : Int), (tk Z al_ ai az mm sk v0 vh) → (0 ≤ x8 ∧ x8 ≤ Z 219 0) → (0 ≤ x9 ∧ x9 ≤ x8 + x10) → (0 ≤ x10 ∧ x10 ≤ Z a3 0) → (amI al al_ sk A f Nk l_2 p lo x8 x9 x10) → (((Z a3 0 - x10) * 10000 : Int).toNat < N) → vm_Wp 1 30 33 27 [some (.ref 219), some (.long l_1), none, some (.long l_2), none, some (.ref a3), some (.int (vz i4)), some (.int (vz i5)), some (.int (vz x8)), some (.int (vz x9)), some (.int (vz x10)), none, none, none, none] [] vh (vq_P 33 (fun r v1 => (∃ (Z1 : Nat → Nat → Int) (al1 : Nat → Nat → Int64), (∃ A1, amR Z Z1 al al1 sk A Nk l_2 p lo f A1) ∧ kn Z1 ∧ tk Z1 al1 ai az mm (2 - sk) v0 v1) ∧ r = some (.int (vz 1))))) ∧ (∀ (vh : vm_H) (al_ : Nat → Nat → Int64) (x8 : Int) (x9 : Int) (x10 : Int) (y11 : Int64) (y13 : Int64), (tk Z al_ ai az mm sk v0 vh) → (0 ≤ x8 ∧ x8 ≤ Z 219 0) → (0 ≤ x9 ∧ x9 ≤ x8 + x10) → (0 ≤ x10 ∧ x10 < Z a3 0) → (amI al al_ sk A f Nk l_2 p lo x8 x9 x10) → (y11 = al (a3 + 1) (x10).toNat + l_1) → (y13 = al (a3 + 2) (x10).toNat * l_2) → (pw (al (a3 + 1) (x10).toNat) i4 ≠ i5) → (((Z a3 0 - x10) * 10000 - 1 - x8 : Int).toNat < N) → vm_Wp 1 30 33 82 [some (.ref 219), some (.long l_1), none, some (.long l_2), none, some (.ref a3), some (.int (vz i4)), some (.int (vz i5)), some (.int (vz x8)), some (.int (vz x9)), some (.int (vz x10)), some (.long y11), none, some (.long y13), none] [] vh (vq_P 33 (fun r v1 => (∃ (Z1 : Nat → Nat → Int) (al1 : Nat → Nat → Int64), (∃ A1, amR Z Z1 al al1 sk A Nk l_2 p lo f A1) ∧ kn Z1 ∧ tk Z1 al1 ai az mm (2 - sk) v0 v1) ∧ r = some (.int (vz 1))))) := by
  have hk0 := hk a3 ha_3
  have hS1 := hS.1.1
  intro N
  induction N with
  | zero => exact ⟨by intros; omega, by intros; omega⟩
  | succ N ih =>
    refine ⟨?_, ?_⟩
    ·
      intro vh al_ x8 x9 x10 hM hx8 hx9 hx10 hi0 hN
      have hf1 : al_ (a3 + 1) = al (a3 + 1) := hi0.1 _ (ty_ne (ty_p ha_3).1 (ty_b2 hsk) (by decide)) (ty_ne (ty_p ha_3).1 (ty_b3 hsk) (by decide))
      have hf2 : al_ (a3 + 2) = al (a3 + 2) := hi0.1 _ (ty_ne (ty_p ha_3).2 (ty_b2 hsk) (by decide)) (ty_ne (ty_p ha_3).2 (ty_b3 hsk) (by decide))
      have hb9 := am_bd hi0
      refine w_ldI e33_27 (fun _ => rfl) rfl ?_
      refine w_ldA e33_29 (fun _ => rfl) rfl ?_
      have e5 := tk_poly hM ha_3
      have hk6 := hk a3 ha_3
      refine w_get e33_31 e5 rfl ?_
      refine w_ic e33_34 (by omega) (tk_r hM a3 0) (fun (h7 : Z a3 0 ≤ x10) => ?_) (fun (h7 : x10 < Z a3 0) => ?_)
      ·
        refine w_ldA e33_212 (fun _ => rfl) rfl ?_
        have e8 := tk_stp hM
        refine w_get e33_213 e8 rfl ?_
        refine w_ldI e33_216 (fun _ => rfl) rfl ?_
        refine w_ldA e33_218 (fun _ => rfl) rfl ?_
        refine w_get e33_219 e8 rfl ?_
        refine w_ldI e33_222 (fun _ => rfl) rfl ?_
        refine w_ldA e33_224 (fun _ => rfl) rfl ?_
        refine w_get e33_225 e8 rfl ?_
        refine w_ldI e33_228 (fun _ => rfl) rfl ?_
        refine w_isub e33_230 ?_
        have e9 := tk_big hM (ty_b0 (tk_k hM))
        have e10 := tk_big hM (ty_b2 (tk_k hM))
        refine w_acL e33_231 e9 e10 (by omega) (by omega) (by omega) (by omega) (by omega) (by decide) (by decide) (Nat.le_of_ble_eq_true rfl) (by decide) (by decide) (fun v11 b12 h13 => ?_)
        obtain ⟨al14, hd15, hM16⟩ : ∃ z, z = uA al_ (222 - sk) (va_cpy (al_ (220 + sk)) (al_ (222 - sk)) (x8 : Int).toNat (x9 : Int).toNat ((Z 219 0) - x8 : Int).toNat) ∧ tk Z z ai az mm sk v0 v11 := ⟨_, rfl, tk_B hM (ty_b2 (tk_k hM)) b12 h13⟩
        refine w_ldA e33_234 (fun _ => rfl) rfl ?_
        have e17 := tk_stp hM16
        refine w_get e33_235 e17 rfl ?_
        refine w_ldI e33_238 (fun _ => rfl) rfl ?_
        refine w_ldA e33_240 (fun _ => rfl) rfl ?_
        refine w_get e33_241 e17 rfl ?_
        refine w_ldI e33_244 (fun _ => rfl) rfl ?_
        refine w_ldA e33_246 (fun _ => rfl) rfl ?_
        refine w_get e33_247 e17 rfl ?_
        refine w_ldI e33_250 (fun _ => rfl) rfl ?_
        refine w_isub e33_252 ?_
        have e18 := tk_big hM16 (ty_b1 (tk_k hM16))
        have e19 := tk_big hM16 (ty_b3 (tk_k hM16))
        refine w_acL e33_253 e18 e19 (by omega) (by omega) (by omega) (by omega) (by omega) (by decide) (by decide) (Nat.le_of_ble_eq_true rfl) (by decide) (by decide) (fun v20 b21 h22 => ?_)
        obtain ⟨al23, hd24, hM25⟩ : ∃ z, z = uA al14 (223 - sk) (va_cpy (al14 (221 + sk)) (al14 (223 - sk)) (x8 : Int).toNat (x9 : Int).toNat ((Z 219 0) - x8 : Int).toNat) ∧ tk Z z ai az mm sk v0 v20 := ⟨_, rfl, tk_B hM16 (ty_b3 (tk_k hM16)) b21 h22⟩
        refine w_ldA e33_256 (fun _ => rfl) rfl ?_
        refine w_ldI e33_257 (fun _ => rfl) rfl ?_
        refine w_ldA e33_259 (fun _ => rfl) rfl ?_
        have e26 := tk_stp hM25
        refine w_get e33_260 e26 rfl ?_
        refine w_iadd e33_263 ?_
        refine w_ldI e33_264 (fun _ => rfl) rfl ?_
        refine w_isub e33_266 ?_
        refine w_put e33_267 e26 (Nat.le_of_ble_eq_true rfl) rfl (fun v29 b27 h28 => ?_)
        obtain ⟨Z30, hd31, hM32⟩ : ∃ z, z = u2 Z 219 0 ((x9 + (Z 219 0)) - x8) ∧ tk z al23 ai az mm sk v0 v29 := ⟨_, rfl, tk_Zs hM25 (by omega) b27 h28⟩
        have hk33 := kn_u hk hd31 (fun h9 => absurd h9 (by decide))
        refine w_ldA e33_270 (fun _ => rfl) rfl ?_
        have e34 := tk_stp hM32
        refine w_cv e33_271 (by decide) rfl e34 rfl (Nat.le_of_ble_eq_true rfl) (Nat.le_of_ble_eq_true rfl) (Nat.le_of_ble_eq_true rfl) (by decide) (by decide) (k34 hM32) (fun o35 v36 hq37 => ?_)
        obtain ⟨hM38, rfl⟩ := hq37
        refine w_kI e33_274 ?_
        exact w_rz e33_275 rfl (by omega) ⟨⟨Z30, al23, am_end hi0 hsk hL hS (by omega) (by omega) hd15 hd24 hd31, hk33, hM38⟩, rfl⟩
      ·
        refine w_ldA e33_37 (fun _ => rfl) rfl ?_
        refine w_get e33_39 e5 rfl ?_
        refine w_ldI e33_42 (fun _ => rfl) rfl ?_
        have e39 := tk_l60 hM (ty_p ha_3).1
        refine w_lld e33_44 e39 (by omega) (by omega) (by decide) ?_
        refine w_ldI e33_45 (fun _ => rfl) rfl ?_
        refine w_cs e33_47 (by decide) (Nat.le_of_ble_eq_true rfl) (Nat.le_of_ble_eq_true rfl) (Nat.le_of_ble_eq_true rfl) (by decide) (by decide) (c73x) (fun o40 v41 hq42 => ?_)
        obtain ⟨rfl, rfl⟩ := hq42
        have hp43 := pw_bd (((al_ (a3 + 1)) (x10).toNat)) i4
        refine w_ldI e33_50 (fun _ => rfl) rfl ?_
        refine w_ic e33_52 (by omega) hi_5 (fun (h44 : pw (((al_ (a3 + 1)) (x10).toNat)) i4 ≠ i5) => ?_) (fun (h44 : pw (((al_ (a3 + 1)) (x10).toNat)) i4 = i5) => ?_)
        ·
          refine w_ldA e33_58 (fun _ => rfl) rfl ?_
          refine w_get e33_60 e5 rfl ?_
          refine w_ldI e33_63 (fun _ => rfl) rfl ?_
          refine w_lld e33_65 e39 (by omega) (by omega) (by decide) ?_
          refine w_ldL e33_66 (fun _ => rfl) rfl ?_
          refine w_x e33_67 (fun _ => rfl) ?_
          refine w_stL (j := 11) (A1 := [some (.ref 219), some (.long l_1), none, some (.long l_2), none, some (.ref a3), some (.int (vz i4)), some (.int (vz i5)), some (.int (vz x8)), some (.int (vz x9)), some (.int (vz x10)), some (.long (((((al_ (a3 + 1)) (x10).toNat)) + l_1))), none, none, none]) e33_68 (fun _ => rfl) (by decide) rfl ?_
          refine w_ldA e33_70 (fun _ => rfl) rfl ?_
          refine w_get e33_72 e5 rfl ?_
          refine w_ldI e33_75 (fun _ => rfl) rfl ?_
          have e45 := tk_l60 hM (ty_p ha_3).2
          refine w_lld e33_77 e45 (by omega) (by omega) (by decide) ?_
          refine w_ldL e33_78 (fun _ => rfl) rfl ?_
          refine w_x e33_79 (fun _ => rfl) ?_
          refine w_stL (j := 13) (A1 := [some (.ref 219), some (.long l_1), none, some (.long l_2), none, some (.ref a3), some (.int (vz i4)), some (.int (vz i5)), some (.int (vz x8)), some (.int (vz x9)), some (.int (vz x10)), some (.long (((((al_ (a3 + 1)) (x10).toNat)) + l_1))), none, some (.long (((((al_ (a3 + 2)) (x10).toNat)) * l_2))), none]) e33_80 (fun _ => rfl) (by decide) rfl ?_
          exact w_sub (A1 := [some (.ref 219), some (.long l_1), none, some (.long l_2), none, some (.ref a3), some (.int (vz i4)), some (.int (vz i5)), some (.int (vz x8)), some (.int (vz x9)), some (.int (vz x10)), some (.long (((((al_ (a3 + 1)) (x10).toNat)) + l_1))), none, some (.long (((((al_ (a3 + 2)) (x10).toNat)) * l_2))), none]) (And.intro rfl (And.intro rfl (And.intro rfl (And.intro rfl (And.intro rfl (And.intro rfl (And.intro rfl (And.intro rfl (And.intro rfl (And.intro rfl (And.intro rfl trivial))))))))))) ((ih.2) vh al_ x8 x9 x10 (((((al_ (a3 + 1)) (x10).toNat)) + l_1)) (((((al_ (a3 + 2)) (x10).toNat)) * l_2)) hM (by omega) (by omega) (by omega) hi0 (by rw [hf1]) (by rw [hf2]) (by rw [← hf1]; exact h44) (by omega))
        ·
          refine w_x e33_55 (fun _ => rfl) ?_
          refine w_iinc (A1 := [some (.ref 219), some (.long l_1), none, some (.long l_2), none, some (.ref a3), some (.int (vz i4)), some (.int (vz i5)), some (.int (vz x8)), some (.int (vz x9)), some (.int (vz (x10 + 1))), none, none, none, none]) e33_206 rfl (by decide) rfl ?_
          refine w_x e33_209 (fun _ => rfl) ?_
          exact w_sub (A1 := [some (.ref 219), some (.long l_1), none, some (.long l_2), none, some (.ref a3), some (.int (vz i4)), some (.int (vz i5)), some (.int (vz x8)), some (.int (vz x9)), some (.int (vz (x10 + 1))), none, none, none, none]) (And.intro rfl (And.intro rfl (And.intro rfl (And.intro rfl (And.intro rfl (And.intro rfl (And.intro rfl (And.intro rfl (And.intro rfl trivial))))))))) ((ih.1) vh al_ x8 x9 (x10 + 1) hM (by omega) (by omega) (by omega) (am_skip hi0 hL hg hn8 (by omega) hp hl (by rw [← hf1]; exact h44)) (by omega))
    ·
      intro vh al_ x8 x9 x10 y11 y13 hM hx8 hx9 hx10 hi0 hi1 hi2 hi3 hN
      have hf1 : al_ (a3 + 1) = al (a3 + 1) := hi0.1 _ (ty_ne (ty_p ha_3).1 (ty_b2 hsk) (by decide)) (ty_ne (ty_p ha_3).1 (ty_b3 hsk) (by decide))
      have hf2 : al_ (a3 + 2) = al (a3 + 2) := hi0.1 _ (ty_ne (ty_p ha_3).2 (ty_b2 hsk) (by decide)) (ty_ne (ty_p ha_3).2 (ty_b3 hsk) (by decide))
      have hb9 := am_bd hi0
      refine w_ldI e33_82 (fun _ => rfl) rfl ?_
      refine w_ldA e33_84 (fun _ => rfl) rfl ?_
      have e46 := tk_stp hM
      refine w_get e33_85 e46 rfl ?_
      refine w_ic e33_88 (by omega) (tk_r hM 219 0) (fun (h47 : Z 219 0 ≤ x8) => ?_) (fun (h47 : x8 < Z 219 0) => ?_)
      ·
        refine w_ldI e33_141 (fun _ => rfl) rfl ?_
        refine w_ldA e33_143 (fun _ => rfl) rfl ?_
        refine w_get e33_144 e46 rfl ?_
        refine w_ic e33_147 (by omega) (tk_r hM 219 0) (fun (h48 : Z 219 0 ≤ x8) => ?_) (fun (h48 : x8 < Z 219 0) => ?_)
        ·
          refine w_ldL e33_178 (fun _ => rfl) rfl ?_
          refine w_x e33_180 (fun _ => rfl) ?_
          refine w_lcmp e33_181 (fun q49 (h50 : -1 ≤ q49 ∧ q49 ≤ 1) h51 h52 => ?_)
          refine w_if e33_182 (by omega) (fun (h53 : q49 = 0) => ?_) (fun (h53 : q49 ≠ 0) => ?_)
          ·
            refine w_iinc (A1 := [some (.ref 219), some (.long l_1), none, some (.long l_2), none, some (.ref a3), some (.int (vz i4)), some (.int (vz i5)), some (.int (vz x8)), some (.int (vz x9)), some (.int (vz (x10 + 1))), some (.long y11), none, some (.long y13), none]) e33_206 rfl (by decide) rfl ?_
            refine w_x e33_209 (fun _ => rfl) ?_
            exact w_sub (A1 := [some (.ref 219), some (.long l_1), none, some (.long l_2), none, some (.ref a3), some (.int (vz i4)), some (.int (vz i5)), some (.int (vz x8)), some (.int (vz x9)), some (.int (vz (x10 + 1))), none, none, none, none]) (And.intro rfl (And.intro rfl (And.intro rfl (And.intro rfl (And.intro rfl (And.intro rfl (And.intro rfl (And.intro rfl (And.intro rfl trivial))))))))) ((ih.1) vh al_ x8 x9 (x10 + 1) hM (by omega) (by omega) (by omega) (am_addZ (w := 0) hi0 hsk hL hg hn8 hS (by omega) (by omega) hp hl hi3 hk1 hNk hi1 hi2 (by rw [Int64.add_zero]) (Or.inl ⟨rfl, rfl, Or.inl (by omega)⟩) (h51.mp (by omega))) (by omega))
          ·
            refine w_ldA e33_185 (fun _ => rfl) rfl ?_
            refine w_get e33_186 e46 rfl ?_
            refine w_ldI e33_189 (fun _ => rfl) rfl ?_
            refine w_ldL e33_191 (fun _ => rfl) rfl ?_
            have e54 := tk_big hM (ty_b2 (tk_k hM))
            refine w_lst e33_193 e54 (by omega) (by omega) (by decide) (fun v57 b55 h56 => ?_)
            obtain ⟨al58, hd59, hM60⟩ : ∃ z, z = uA al_ (222 - sk) (vp_updL (al_ (222 - sk)) (x9).toNat y11) ∧ tk Z z ai az mm sk v0 v57 := ⟨_, rfl, tk_B hM (ty_b2 (tk_k hM)) b55 h56⟩
            refine w_ldA e33_194 (fun _ => rfl) rfl ?_
            have e61 := tk_stp hM60
            refine w_get e33_195 e61 rfl ?_
            refine w_ldI e33_198 (fun _ => rfl) rfl ?_
            refine w_ldL e33_200 (fun _ => rfl) rfl ?_
            have e62 := tk_big hM60 (ty_b3 (tk_k hM60))
            refine w_lst e33_202 e62 (by omega) (by omega) (by decide) (fun v65 b63 h64 => ?_)
            obtain ⟨al66, hd67, hM68⟩ : ∃ z, z = uA al58 (223 - sk) (vp_updL (al58 (223 - sk)) (x9).toNat y13) ∧ tk Z z ai az mm sk v0 v65 := ⟨_, rfl, tk_B hM60 (ty_b3 (tk_k hM60)) b63 h64⟩
            refine w_iinc (A1 := [some (.ref 219), some (.long l_1), none, some (.long l_2), none, some (.ref a3), some (.int (vz i4)), some (.int (vz i5)), some (.int (vz x8)), some (.int (vz (x9 + 1))), some (.int (vz x10)), some (.long y11), none, some (.long y13), none]) e33_203 rfl (by decide) rfl ?_
            refine w_iinc (A1 := [some (.ref 219), some (.long l_1), none, some (.long l_2), none, some (.ref a3), some (.int (vz i4)), some (.int (vz i5)), some (.int (vz x8)), some (.int (vz (x9 + 1))), some (.int (vz (x10 + 1))), some (.long y11), none, some (.long y13), none]) e33_206 rfl (by decide) rfl ?_
            refine w_x e33_209 (fun _ => rfl) ?_
            exact w_sub (A1 := [some (.ref 219), some (.long l_1), none, some (.long l_2), none, some (.ref a3), some (.int (vz i4)), some (.int (vz i5)), some (.int (vz x8)), some (.int (vz (x9 + 1))), some (.int (vz (x10 + 1))), none, none, none, none]) (And.intro rfl (And.intro rfl (And.intro rfl (And.intro rfl (And.intro rfl (And.intro rfl (And.intro rfl (And.intro rfl (And.intro rfl trivial))))))))) ((ih.1) v65 al66 x8 (x9 + 1) (x10 + 1) hM68 (by omega) (by omega) (by omega) (am_addN (w := 0) hi0 hsk hL hg hn8 hS (by omega) (by omega) hp hl hi3 hk1 hNk hi1 hi2 (by rw [Int64.add_zero]) (Or.inl ⟨rfl, rfl, Or.inl (by omega)⟩) (fun e9 => absurd (h51.mpr e9) (by omega)) hd59 hd67) (by omega))
        ·
          refine w_ldA e33_150 (fun _ => rfl) rfl ?_
          refine w_get e33_151 e46 rfl ?_
          refine w_ldI e33_154 (fun _ => rfl) rfl ?_
          have e69 := tk_big hM (ty_b0 (tk_k hM))
          refine w_lld e33_156 e69 (by omega) (by omega) (by decide) ?_
          refine w_ldL e33_157 (fun _ => rfl) rfl ?_
          refine w_lcmp e33_159 (fun q70 (h71 : -1 ≤ q70 ∧ q70 ≤ 1) h72 h73 => ?_)
          refine w_if e33_160 (by omega) (fun (h74 : q70 ≠ 0) => ?_) (fun (h74 : q70 = 0) => ?_)
          ·
            refine w_ldL e33_178 (fun _ => rfl) rfl ?_
            refine w_x e33_180 (fun _ => rfl) ?_
            refine w_lcmp e33_181 (fun q75 (h76 : -1 ≤ q75 ∧ q75 ≤ 1) h77 h78 => ?_)
            refine w_if e33_182 (by omega) (fun (h79 : q75 = 0) => ?_) (fun (h79 : q75 ≠ 0) => ?_)
            ·
              refine w_iinc (A1 := [some (.ref 219), some (.long l_1), none, some (.long l_2), none, some (.ref a3), some (.int (vz i4)), some (.int (vz i5)), some (.int (vz x8)), some (.int (vz x9)), some (.int (vz (x10 + 1))), some (.long y11), none, some (.long y13), none]) e33_206 rfl (by decide) rfl ?_
              refine w_x e33_209 (fun _ => rfl) ?_
              exact w_sub (A1 := [some (.ref 219), some (.long l_1), none, some (.long l_2), none, some (.ref a3), some (.int (vz i4)), some (.int (vz i5)), some (.int (vz x8)), some (.int (vz x9)), some (.int (vz (x10 + 1))), none, none, none, none]) (And.intro rfl (And.intro rfl (And.intro rfl (And.intro rfl (And.intro rfl (And.intro rfl (And.intro rfl (And.intro rfl (And.intro rfl trivial))))))))) ((ih.1) vh al_ x8 x9 (x10 + 1) hM (by omega) (by omega) (by omega) (am_addZ (w := 0) hi0 hsk hL hg hn8 hS (by omega) (by omega) hp hl hi3 hk1 hNk hi1 hi2 (by rw [Int64.add_zero]) (Or.inl ⟨rfl, rfl, Or.inl (by omega)⟩) (h77.mp (by omega))) (by omega))
            ·
              refine w_ldA e33_185 (fun _ => rfl) rfl ?_
              refine w_get e33_186 e46 rfl ?_
              refine w_ldI e33_189 (fun _ => rfl) rfl ?_
              refine w_ldL e33_191 (fun _ => rfl) rfl ?_
              have e80 := tk_big hM (ty_b2 (tk_k hM))
              refine w_lst e33_193 e80 (by omega) (by omega) (by decide) (fun v83 b81 h82 => ?_)
              obtain ⟨al84, hd85, hM86⟩ : ∃ z, z = uA al_ (222 - sk) (vp_updL (al_ (222 - sk)) (x9).toNat y11) ∧ tk Z z ai az mm sk v0 v83 := ⟨_, rfl, tk_B hM (ty_b2 (tk_k hM)) b81 h82⟩
              refine w_ldA e33_194 (fun _ => rfl) rfl ?_
              have e87 := tk_stp hM86
              refine w_get e33_195 e87 rfl ?_
              refine w_ldI e33_198 (fun _ => rfl) rfl ?_
              refine w_ldL e33_200 (fun _ => rfl) rfl ?_
              have e88 := tk_big hM86 (ty_b3 (tk_k hM86))
              refine w_lst e33_202 e88 (by omega) (by omega) (by decide) (fun v91 b89 h90 => ?_)
              obtain ⟨al92, hd93, hM94⟩ : ∃ z, z = uA al84 (223 - sk) (vp_updL (al84 (223 - sk)) (x9).toNat y13) ∧ tk Z z ai az mm sk v0 v91 := ⟨_, rfl, tk_B hM86 (ty_b3 (tk_k hM86)) b89 h90⟩
              refine w_iinc (A1 := [some (.ref 219), some (.long l_1), none, some (.long l_2), none, some (.ref a3), some (.int (vz i4)), some (.int (vz i5)), some (.int (vz x8)), some (.int (vz (x9 + 1))), some (.int (vz x10)), some (.long y11), none, some (.long y13), none]) e33_203 rfl (by decide) rfl ?_
              refine w_iinc (A1 := [some (.ref 219), some (.long l_1), none, some (.long l_2), none, some (.ref a3), some (.int (vz i4)), some (.int (vz i5)), some (.int (vz x8)), some (.int (vz (x9 + 1))), some (.int (vz (x10 + 1))), some (.long y11), none, some (.long y13), none]) e33_206 rfl (by decide) rfl ?_
              refine w_x e33_209 (fun _ => rfl) ?_
              exact w_sub (A1 := [some (.ref 219), some (.long l_1), none, some (.long l_2), none, some (.ref a3), some (.int (vz i4)), some (.int (vz i5)), some (.int (vz x8)), some (.int (vz (x9 + 1))), some (.int (vz (x10 + 1))), none, none, none, none]) (And.intro rfl (And.intro rfl (And.intro rfl (And.intro rfl (And.intro rfl (And.intro rfl (And.intro rfl (And.intro rfl (And.intro rfl trivial))))))))) ((ih.1) v91 al92 x8 (x9 + 1) (x10 + 1) hM94 (by omega) (by omega) (by omega) (am_addN (w := 0) hi0 hsk hL hg hn8 hS (by omega) (by omega) hp hl hi3 hk1 hNk hi1 hi2 (by rw [Int64.add_zero]) (Or.inl ⟨rfl, rfl, Or.inl (by omega)⟩) (fun e9 => absurd (h77.mpr e9) (by omega)) hd85 hd93) (by omega))
          ·
            refine w_ldL e33_163 (fun _ => rfl) rfl ?_
            refine w_ldA e33_165 (fun _ => rfl) rfl ?_
            refine w_get e33_166 e46 rfl ?_
            refine w_ldI e33_169 (fun _ => rfl) rfl ?_
            have e95 := tk_big hM (ty_b1 (tk_k hM))
            refine w_lld e33_171 e95 (by omega) (by omega) (by decide) ?_
            refine w_x e33_172 (fun _ => rfl) ?_
            refine w_stL (j := 13) (A1 := [some (.ref 219), some (.long l_1), none, some (.long l_2), none, some (.ref a3), some (.int (vz i4)), some (.int (vz i5)), some (.int (vz x8)), some (.int (vz x9)), some (.int (vz x10)), some (.long y11), none, some (.long ((y13 + (((al_ (221 + sk)) (x8).toNat))))), none]) e33_173 (fun _ => rfl) (by decide) rfl ?_
            refine w_iinc (A1 := [some (.ref 219), some (.long l_1), none, some (.long l_2), none, some (.ref a3), some (.int (vz i4)), some (.int (vz i5)), some (.int (vz (x8 + 1))), some (.int (vz x9)), some (.int (vz x10)), some (.long y11), none, some (.long ((y13 + (((al_ (221 + sk)) (x8).toNat))))), none]) e33_175 rfl (by decide) rfl ?_
            refine w_ldL e33_178 (fun _ => rfl) rfl ?_
            refine w_x e33_180 (fun _ => rfl) ?_
            refine w_lcmp e33_181 (fun q96 (h97 : -1 ≤ q96 ∧ q96 ≤ 1) h98 h99 => ?_)
            refine w_if e33_182 (by omega) (fun (h100 : q96 = 0) => ?_) (fun (h100 : q96 ≠ 0) => ?_)
            ·
              refine w_iinc (A1 := [some (.ref 219), some (.long l_1), none, some (.long l_2), none, some (.ref a3), some (.int (vz i4)), some (.int (vz i5)), some (.int (vz (x8 + 1))), some (.int (vz x9)), some (.int (vz (x10 + 1))), some (.long y11), none, some (.long ((y13 + (((al_ (221 + sk)) (x8).toNat))))), none]) e33_206 rfl (by decide) rfl ?_
              refine w_x e33_209 (fun _ => rfl) ?_
              exact w_sub (A1 := [some (.ref 219), some (.long l_1), none, some (.long l_2), none, some (.ref a3), some (.int (vz i4)), some (.int (vz i5)), some (.int (vz (x8 + 1))), some (.int (vz x9)), some (.int (vz (x10 + 1))), none, none, none, none]) (And.intro rfl (And.intro rfl (And.intro rfl (And.intro rfl (And.intro rfl (And.intro rfl (And.intro rfl (And.intro rfl (And.intro rfl trivial))))))))) ((ih.1) vh al_ (x8 + 1) x9 (x10 + 1) hM (by omega) (by omega) (by omega) (am_addZ (w := al_ (221 + sk) (x8).toNat) hi0 hsk hL hg hn8 hS (by omega) (by omega) hp hl hi3 hk1 hNk hi1 hi2 rfl (Or.inr ⟨rfl, rfl, by omega, (h72.mp (by omega))⟩) (h98.mp (by omega))) (by omega))
            ·
              refine w_ldA e33_185 (fun _ => rfl) rfl ?_
              refine w_get e33_186 e46 rfl ?_
              refine w_ldI e33_189 (fun _ => rfl) rfl ?_
              refine w_ldL e33_191 (fun _ => rfl) rfl ?_
              have e101 := tk_big hM (ty_b2 (tk_k hM))
              refine w_lst e33_193 e101 (by omega) (by omega) (by decide) (fun v104 b102 h103 => ?_)
              obtain ⟨al105, hd106, hM107⟩ : ∃ z, z = uA al_ (222 - sk) (vp_updL (al_ (222 - sk)) (x9).toNat y11) ∧ tk Z z ai az mm sk v0 v104 := ⟨_, rfl, tk_B hM (ty_b2 (tk_k hM)) b102 h103⟩
              refine w_ldA e33_194 (fun _ => rfl) rfl ?_
              have e108 := tk_stp hM107
              refine w_get e33_195 e108 rfl ?_
              refine w_ldI e33_198 (fun _ => rfl) rfl ?_
              refine w_ldL e33_200 (fun _ => rfl) rfl ?_
              have e109 := tk_big hM107 (ty_b3 (tk_k hM107))
              refine w_lst e33_202 e109 (by omega) (by omega) (by decide) (fun v112 b110 h111 => ?_)
              obtain ⟨al113, hd114, hM115⟩ : ∃ z, z = uA al105 (223 - sk) (vp_updL (al105 (223 - sk)) (x9).toNat ((y13 + (((al_ (221 + sk)) (x8).toNat))))) ∧ tk Z z ai az mm sk v0 v112 := ⟨_, rfl, tk_B hM107 (ty_b3 (tk_k hM107)) b110 h111⟩
              refine w_iinc (A1 := [some (.ref 219), some (.long l_1), none, some (.long l_2), none, some (.ref a3), some (.int (vz i4)), some (.int (vz i5)), some (.int (vz (x8 + 1))), some (.int (vz (x9 + 1))), some (.int (vz x10)), some (.long y11), none, some (.long ((y13 + (((al_ (221 + sk)) (x8).toNat))))), none]) e33_203 rfl (by decide) rfl ?_
              refine w_iinc (A1 := [some (.ref 219), some (.long l_1), none, some (.long l_2), none, some (.ref a3), some (.int (vz i4)), some (.int (vz i5)), some (.int (vz (x8 + 1))), some (.int (vz (x9 + 1))), some (.int (vz (x10 + 1))), some (.long y11), none, some (.long ((y13 + (((al_ (221 + sk)) (x8).toNat))))), none]) e33_206 rfl (by decide) rfl ?_
              refine w_x e33_209 (fun _ => rfl) ?_
              exact w_sub (A1 := [some (.ref 219), some (.long l_1), none, some (.long l_2), none, some (.ref a3), some (.int (vz i4)), some (.int (vz i5)), some (.int (vz (x8 + 1))), some (.int (vz (x9 + 1))), some (.int (vz (x10 + 1))), none, none, none, none]) (And.intro rfl (And.intro rfl (And.intro rfl (And.intro rfl (And.intro rfl (And.intro rfl (And.intro rfl (And.intro rfl (And.intro rfl trivial))))))))) ((ih.1) v112 al113 (x8 + 1) (x9 + 1) (x10 + 1) hM115 (by omega) (by omega) (by omega) (am_addN (w := al_ (221 + sk) (x8).toNat) hi0 hsk hL hg hn8 hS (by omega) (by omega) hp hl hi3 hk1 hNk hi1 hi2 rfl (Or.inr ⟨rfl, rfl, by omega, (h72.mp (by omega))⟩) (fun e9 => absurd (h98.mpr e9) (by omega)) hd106 hd114) (by omega))
      ·
        refine w_ldA e33_91 (fun _ => rfl) rfl ?_
        refine w_get e33_92 e46 rfl ?_
        refine w_ldI e33_95 (fun _ => rfl) rfl ?_
        have e116 := tk_big hM (ty_b0 (tk_k hM))
        refine w_lld e33_97 e116 (by omega) (by omega) (by decide) ?_
        refine w_ldL e33_98 (fun _ => rfl) rfl ?_
        refine w_lcmp e33_100 (fun q117 (h118 : -1 ≤ q117 ∧ q117 ≤ 1) h119 h120 => ?_)
        refine w_if e33_101 (by omega) (fun (h121 : q117 ≤ 0) => ?_) (fun (h121 : 0 < q117) => ?_)
        ·
          refine w_ldI e33_141 (fun _ => rfl) rfl ?_
          refine w_ldA e33_143 (fun _ => rfl) rfl ?_
          refine w_get e33_144 e46 rfl ?_
          refine w_ic e33_147 (by omega) (tk_r hM 219 0) (fun (h122 : Z 219 0 ≤ x8) => ?_) (fun (h122 : x8 < Z 219 0) => ?_)
          ·
            refine w_ldL e33_178 (fun _ => rfl) rfl ?_
            refine w_x e33_180 (fun _ => rfl) ?_
            refine w_lcmp e33_181 (fun q123 (h124 : -1 ≤ q123 ∧ q123 ≤ 1) h125 h126 => ?_)
            refine w_if e33_182 (by omega) (fun (h127 : q123 = 0) => ?_) (fun (h127 : q123 ≠ 0) => ?_)
            ·
              refine w_iinc (A1 := [some (.ref 219), some (.long l_1), none, some (.long l_2), none, some (.ref a3), some (.int (vz i4)), some (.int (vz i5)), some (.int (vz x8)), some (.int (vz x9)), some (.int (vz (x10 + 1))), some (.long y11), none, some (.long y13), none]) e33_206 rfl (by decide) rfl ?_
              refine w_x e33_209 (fun _ => rfl) ?_
              exact w_sub (A1 := [some (.ref 219), some (.long l_1), none, some (.long l_2), none, some (.ref a3), some (.int (vz i4)), some (.int (vz i5)), some (.int (vz x8)), some (.int (vz x9)), some (.int (vz (x10 + 1))), none, none, none, none]) (And.intro rfl (And.intro rfl (And.intro rfl (And.intro rfl (And.intro rfl (And.intro rfl (And.intro rfl (And.intro rfl (And.intro rfl trivial))))))))) ((ih.1) vh al_ x8 x9 (x10 + 1) hM (by omega) (by omega) (by omega) (am_addZ (w := 0) hi0 hsk hL hg hn8 hS (by omega) (by omega) hp hl hi3 hk1 hNk hi1 hi2 (by rw [Int64.add_zero]) (Or.inl ⟨rfl, rfl, Or.inl (by omega)⟩) (h125.mp (by omega))) (by omega))
            ·
              refine w_ldA e33_185 (fun _ => rfl) rfl ?_
              refine w_get e33_186 e46 rfl ?_
              refine w_ldI e33_189 (fun _ => rfl) rfl ?_
              refine w_ldL e33_191 (fun _ => rfl) rfl ?_
              have e128 := tk_big hM (ty_b2 (tk_k hM))
              refine w_lst e33_193 e128 (by omega) (by omega) (by decide) (fun v131 b129 h130 => ?_)
              obtain ⟨al132, hd133, hM134⟩ : ∃ z, z = uA al_ (222 - sk) (vp_updL (al_ (222 - sk)) (x9).toNat y11) ∧ tk Z z ai az mm sk v0 v131 := ⟨_, rfl, tk_B hM (ty_b2 (tk_k hM)) b129 h130⟩
              refine w_ldA e33_194 (fun _ => rfl) rfl ?_
              have e135 := tk_stp hM134
              refine w_get e33_195 e135 rfl ?_
              refine w_ldI e33_198 (fun _ => rfl) rfl ?_
              refine w_ldL e33_200 (fun _ => rfl) rfl ?_
              have e136 := tk_big hM134 (ty_b3 (tk_k hM134))
              refine w_lst e33_202 e136 (by omega) (by omega) (by decide) (fun v139 b137 h138 => ?_)
              obtain ⟨al140, hd141, hM142⟩ : ∃ z, z = uA al132 (223 - sk) (vp_updL (al132 (223 - sk)) (x9).toNat y13) ∧ tk Z z ai az mm sk v0 v139 := ⟨_, rfl, tk_B hM134 (ty_b3 (tk_k hM134)) b137 h138⟩
              refine w_iinc (A1 := [some (.ref 219), some (.long l_1), none, some (.long l_2), none, some (.ref a3), some (.int (vz i4)), some (.int (vz i5)), some (.int (vz x8)), some (.int (vz (x9 + 1))), some (.int (vz x10)), some (.long y11), none, some (.long y13), none]) e33_203 rfl (by decide) rfl ?_
              refine w_iinc (A1 := [some (.ref 219), some (.long l_1), none, some (.long l_2), none, some (.ref a3), some (.int (vz i4)), some (.int (vz i5)), some (.int (vz x8)), some (.int (vz (x9 + 1))), some (.int (vz (x10 + 1))), some (.long y11), none, some (.long y13), none]) e33_206 rfl (by decide) rfl ?_
              refine w_x e33_209 (fun _ => rfl) ?_
              exact w_sub (A1 := [some (.ref 219), some (.long l_1), none, some (.long l_2), none, some (.ref a3), some (.int (vz i4)), some (.int (vz i5)), some (.int (vz x8)), some (.int (vz (x9 + 1))), some (.int (vz (x10 + 1))), none, none, none, none]) (And.intro rfl (And.intro rfl (And.intro rfl (And.intro rfl (And.intro rfl (And.intro rfl (And.intro rfl (And.intro rfl (And.intro rfl trivial))))))))) ((ih.1) v139 al140 x8 (x9 + 1) (x10 + 1) hM142 (by omega) (by omega) (by omega) (am_addN (w := 0) hi0 hsk hL hg hn8 hS (by omega) (by omega) hp hl hi3 hk1 hNk hi1 hi2 (by rw [Int64.add_zero]) (Or.inl ⟨rfl, rfl, Or.inl (by omega)⟩) (fun e9 => absurd (h125.mpr e9) (by omega)) hd133 hd141) (by omega))
          ·
            refine w_ldA e33_150 (fun _ => rfl) rfl ?_
            refine w_get e33_151 e46 rfl ?_
            refine w_ldI e33_154 (fun _ => rfl) rfl ?_
            refine w_lld e33_156 e116 (by omega) (by omega) (by decide) ?_
            refine w_ldL e33_157 (fun _ => rfl) rfl ?_
            refine w_lcmp e33_159 (fun q143 (h144 : -1 ≤ q143 ∧ q143 ≤ 1) h145 h146 => ?_)
            refine w_if e33_160 (by omega) (fun (h147 : q143 ≠ 0) => ?_) (fun (h147 : q143 = 0) => ?_)
            ·
              refine w_ldL e33_178 (fun _ => rfl) rfl ?_
              refine w_x e33_180 (fun _ => rfl) ?_
              refine w_lcmp e33_181 (fun q148 (h149 : -1 ≤ q148 ∧ q148 ≤ 1) h150 h151 => ?_)
              refine w_if e33_182 (by omega) (fun (h152 : q148 = 0) => ?_) (fun (h152 : q148 ≠ 0) => ?_)
              ·
                refine w_iinc (A1 := [some (.ref 219), some (.long l_1), none, some (.long l_2), none, some (.ref a3), some (.int (vz i4)), some (.int (vz i5)), some (.int (vz x8)), some (.int (vz x9)), some (.int (vz (x10 + 1))), some (.long y11), none, some (.long y13), none]) e33_206 rfl (by decide) rfl ?_
                refine w_x e33_209 (fun _ => rfl) ?_
                exact w_sub (A1 := [some (.ref 219), some (.long l_1), none, some (.long l_2), none, some (.ref a3), some (.int (vz i4)), some (.int (vz i5)), some (.int (vz x8)), some (.int (vz x9)), some (.int (vz (x10 + 1))), none, none, none, none]) (And.intro rfl (And.intro rfl (And.intro rfl (And.intro rfl (And.intro rfl (And.intro rfl (And.intro rfl (And.intro rfl (And.intro rfl trivial))))))))) ((ih.1) vh al_ x8 x9 (x10 + 1) hM (by omega) (by omega) (by omega) (am_addZ (w := 0) hi0 hsk hL hg hn8 hS (by omega) (by omega) hp hl hi3 hk1 hNk hi1 hi2 (by rw [Int64.add_zero]) (Or.inl ⟨rfl, rfl, Or.inr (lcm_lt h145 h146 h119 h120 (by omega) (by omega))⟩) (h150.mp (by omega))) (by omega))
              ·
                refine w_ldA e33_185 (fun _ => rfl) rfl ?_
                refine w_get e33_186 e46 rfl ?_
                refine w_ldI e33_189 (fun _ => rfl) rfl ?_
                refine w_ldL e33_191 (fun _ => rfl) rfl ?_
                have e153 := tk_big hM (ty_b2 (tk_k hM))
                refine w_lst e33_193 e153 (by omega) (by omega) (by decide) (fun v156 b154 h155 => ?_)
                obtain ⟨al157, hd158, hM159⟩ : ∃ z, z = uA al_ (222 - sk) (vp_updL (al_ (222 - sk)) (x9).toNat y11) ∧ tk Z z ai az mm sk v0 v156 := ⟨_, rfl, tk_B hM (ty_b2 (tk_k hM)) b154 h155⟩
                refine w_ldA e33_194 (fun _ => rfl) rfl ?_
                have e160 := tk_stp hM159
                refine w_get e33_195 e160 rfl ?_
                refine w_ldI e33_198 (fun _ => rfl) rfl ?_
                refine w_ldL e33_200 (fun _ => rfl) rfl ?_
                have e161 := tk_big hM159 (ty_b3 (tk_k hM159))
                refine w_lst e33_202 e161 (by omega) (by omega) (by decide) (fun v164 b162 h163 => ?_)
                obtain ⟨al165, hd166, hM167⟩ : ∃ z, z = uA al157 (223 - sk) (vp_updL (al157 (223 - sk)) (x9).toNat y13) ∧ tk Z z ai az mm sk v0 v164 := ⟨_, rfl, tk_B hM159 (ty_b3 (tk_k hM159)) b162 h163⟩
                refine w_iinc (A1 := [some (.ref 219), some (.long l_1), none, some (.long l_2), none, some (.ref a3), some (.int (vz i4)), some (.int (vz i5)), some (.int (vz x8)), some (.int (vz (x9 + 1))), some (.int (vz x10)), some (.long y11), none, some (.long y13), none]) e33_203 rfl (by decide) rfl ?_
                refine w_iinc (A1 := [some (.ref 219), some (.long l_1), none, some (.long l_2), none, some (.ref a3), some (.int (vz i4)), some (.int (vz i5)), some (.int (vz x8)), some (.int (vz (x9 + 1))), some (.int (vz (x10 + 1))), some (.long y11), none, some (.long y13), none]) e33_206 rfl (by decide) rfl ?_
                refine w_x e33_209 (fun _ => rfl) ?_
                exact w_sub (A1 := [some (.ref 219), some (.long l_1), none, some (.long l_2), none, some (.ref a3), some (.int (vz i4)), some (.int (vz i5)), some (.int (vz x8)), some (.int (vz (x9 + 1))), some (.int (vz (x10 + 1))), none, none, none, none]) (And.intro rfl (And.intro rfl (And.intro rfl (And.intro rfl (And.intro rfl (And.intro rfl (And.intro rfl (And.intro rfl (And.intro rfl trivial))))))))) ((ih.1) v164 al165 x8 (x9 + 1) (x10 + 1) hM167 (by omega) (by omega) (by omega) (am_addN (w := 0) hi0 hsk hL hg hn8 hS (by omega) (by omega) hp hl hi3 hk1 hNk hi1 hi2 (by rw [Int64.add_zero]) (Or.inl ⟨rfl, rfl, Or.inr (lcm_lt h145 h146 h119 h120 (by omega) (by omega))⟩) (fun e9 => absurd (h150.mpr e9) (by omega)) hd158 hd166) (by omega))
            ·
              refine w_ldL e33_163 (fun _ => rfl) rfl ?_
              refine w_ldA e33_165 (fun _ => rfl) rfl ?_
              refine w_get e33_166 e46 rfl ?_
              refine w_ldI e33_169 (fun _ => rfl) rfl ?_
              have e168 := tk_big hM (ty_b1 (tk_k hM))
              refine w_lld e33_171 e168 (by omega) (by omega) (by decide) ?_
              refine w_x e33_172 (fun _ => rfl) ?_
              refine w_stL (j := 13) (A1 := [some (.ref 219), some (.long l_1), none, some (.long l_2), none, some (.ref a3), some (.int (vz i4)), some (.int (vz i5)), some (.int (vz x8)), some (.int (vz x9)), some (.int (vz x10)), some (.long y11), none, some (.long ((y13 + (((al_ (221 + sk)) (x8).toNat))))), none]) e33_173 (fun _ => rfl) (by decide) rfl ?_
              refine w_iinc (A1 := [some (.ref 219), some (.long l_1), none, some (.long l_2), none, some (.ref a3), some (.int (vz i4)), some (.int (vz i5)), some (.int (vz (x8 + 1))), some (.int (vz x9)), some (.int (vz x10)), some (.long y11), none, some (.long ((y13 + (((al_ (221 + sk)) (x8).toNat))))), none]) e33_175 rfl (by decide) rfl ?_
              refine w_ldL e33_178 (fun _ => rfl) rfl ?_
              refine w_x e33_180 (fun _ => rfl) ?_
              refine w_lcmp e33_181 (fun q169 (h170 : -1 ≤ q169 ∧ q169 ≤ 1) h171 h172 => ?_)
              refine w_if e33_182 (by omega) (fun (h173 : q169 = 0) => ?_) (fun (h173 : q169 ≠ 0) => ?_)
              ·
                refine w_iinc (A1 := [some (.ref 219), some (.long l_1), none, some (.long l_2), none, some (.ref a3), some (.int (vz i4)), some (.int (vz i5)), some (.int (vz (x8 + 1))), some (.int (vz x9)), some (.int (vz (x10 + 1))), some (.long y11), none, some (.long ((y13 + (((al_ (221 + sk)) (x8).toNat))))), none]) e33_206 rfl (by decide) rfl ?_
                refine w_x e33_209 (fun _ => rfl) ?_
                exact w_sub (A1 := [some (.ref 219), some (.long l_1), none, some (.long l_2), none, some (.ref a3), some (.int (vz i4)), some (.int (vz i5)), some (.int (vz (x8 + 1))), some (.int (vz x9)), some (.int (vz (x10 + 1))), none, none, none, none]) (And.intro rfl (And.intro rfl (And.intro rfl (And.intro rfl (And.intro rfl (And.intro rfl (And.intro rfl (And.intro rfl (And.intro rfl trivial))))))))) ((ih.1) vh al_ (x8 + 1) x9 (x10 + 1) hM (by omega) (by omega) (by omega) (am_addZ (w := al_ (221 + sk) (x8).toNat) hi0 hsk hL hg hn8 hS (by omega) (by omega) hp hl hi3 hk1 hNk hi1 hi2 rfl (Or.inr ⟨rfl, rfl, by omega, (h145.mp (by omega))⟩) (h171.mp (by omega))) (by omega))
              ·
                refine w_ldA e33_185 (fun _ => rfl) rfl ?_
                refine w_get e33_186 e46 rfl ?_
                refine w_ldI e33_189 (fun _ => rfl) rfl ?_
                refine w_ldL e33_191 (fun _ => rfl) rfl ?_
                have e174 := tk_big hM (ty_b2 (tk_k hM))
                refine w_lst e33_193 e174 (by omega) (by omega) (by decide) (fun v177 b175 h176 => ?_)
                obtain ⟨al178, hd179, hM180⟩ : ∃ z, z = uA al_ (222 - sk) (vp_updL (al_ (222 - sk)) (x9).toNat y11) ∧ tk Z z ai az mm sk v0 v177 := ⟨_, rfl, tk_B hM (ty_b2 (tk_k hM)) b175 h176⟩
                refine w_ldA e33_194 (fun _ => rfl) rfl ?_
                have e181 := tk_stp hM180
                refine w_get e33_195 e181 rfl ?_
                refine w_ldI e33_198 (fun _ => rfl) rfl ?_
                refine w_ldL e33_200 (fun _ => rfl) rfl ?_
                have e182 := tk_big hM180 (ty_b3 (tk_k hM180))
                refine w_lst e33_202 e182 (by omega) (by omega) (by decide) (fun v185 b183 h184 => ?_)
                obtain ⟨al186, hd187, hM188⟩ : ∃ z, z = uA al178 (223 - sk) (vp_updL (al178 (223 - sk)) (x9).toNat ((y13 + (((al_ (221 + sk)) (x8).toNat))))) ∧ tk Z z ai az mm sk v0 v185 := ⟨_, rfl, tk_B hM180 (ty_b3 (tk_k hM180)) b183 h184⟩
                refine w_iinc (A1 := [some (.ref 219), some (.long l_1), none, some (.long l_2), none, some (.ref a3), some (.int (vz i4)), some (.int (vz i5)), some (.int (vz (x8 + 1))), some (.int (vz (x9 + 1))), some (.int (vz x10)), some (.long y11), none, some (.long ((y13 + (((al_ (221 + sk)) (x8).toNat))))), none]) e33_203 rfl (by decide) rfl ?_
                refine w_iinc (A1 := [some (.ref 219), some (.long l_1), none, some (.long l_2), none, some (.ref a3), some (.int (vz i4)), some (.int (vz i5)), some (.int (vz (x8 + 1))), some (.int (vz (x9 + 1))), some (.int (vz (x10 + 1))), some (.long y11), none, some (.long ((y13 + (((al_ (221 + sk)) (x8).toNat))))), none]) e33_206 rfl (by decide) rfl ?_
                refine w_x e33_209 (fun _ => rfl) ?_
                exact w_sub (A1 := [some (.ref 219), some (.long l_1), none, some (.long l_2), none, some (.ref a3), some (.int (vz i4)), some (.int (vz i5)), some (.int (vz (x8 + 1))), some (.int (vz (x9 + 1))), some (.int (vz (x10 + 1))), none, none, none, none]) (And.intro rfl (And.intro rfl (And.intro rfl (And.intro rfl (And.intro rfl (And.intro rfl (And.intro rfl (And.intro rfl (And.intro rfl trivial))))))))) ((ih.1) v185 al186 (x8 + 1) (x9 + 1) (x10 + 1) hM188 (by omega) (by omega) (by omega) (am_addN (w := al_ (221 + sk) (x8).toNat) hi0 hsk hL hg hn8 hS (by omega) (by omega) hp hl hi3 hk1 hNk hi1 hi2 rfl (Or.inr ⟨rfl, rfl, by omega, (h145.mp (by omega))⟩) (fun e9 => absurd (h171.mpr e9) (by omega)) hd179 hd187) (by omega))
        ·
          refine w_ldA e33_104 (fun _ => rfl) rfl ?_
          refine w_get e33_105 e46 rfl ?_
          refine w_ldI e33_108 (fun _ => rfl) rfl ?_
          refine w_ldA e33_110 (fun _ => rfl) rfl ?_
          refine w_get e33_111 e46 rfl ?_
          refine w_ldI e33_114 (fun _ => rfl) rfl ?_
          refine w_lld e33_116 e116 (by omega) (by omega) (by decide) ?_
          have e189 := tk_big hM (ty_b2 (tk_k hM))
          refine w_lst e33_117 e189 (by omega) (by omega) (by decide) (fun v192 b190 h191 => ?_)
          obtain ⟨al193, hd194, hM195⟩ : ∃ z, z = uA al_ (222 - sk) (vp_updL (al_ (222 - sk)) (x9).toNat (((al_ (220 + sk)) (x8).toNat))) ∧ tk Z z ai az mm sk v0 v192 := ⟨_, rfl, tk_B hM (ty_b2 (tk_k hM)) b190 h191⟩
          refine w_ldA e33_118 (fun _ => rfl) rfl ?_
          have e196 := tk_stp hM195
          refine w_get e33_119 e196 rfl ?_
          refine w_ldI e33_122 (fun _ => rfl) rfl ?_
          refine w_ldA e33_124 (fun _ => rfl) rfl ?_
          refine w_get e33_125 e196 rfl ?_
          refine w_ldI e33_128 (fun _ => rfl) rfl ?_
          have e197 := tk_big hM195 (ty_b1 (tk_k hM195))
          refine w_lld e33_130 e197 (by omega) (by omega) (by decide) ?_
          have e198 := tk_big hM195 (ty_b3 (tk_k hM195))
          refine w_lst e33_131 e198 (by omega) (by omega) (by decide) (fun v201 b199 h200 => ?_)
          obtain ⟨al202, hd203, hM204⟩ : ∃ z, z = uA al193 (223 - sk) (vp_updL (al193 (223 - sk)) (x9).toNat (((al193 (221 + sk)) (x8).toNat))) ∧ tk Z z ai az mm sk v0 v201 := ⟨_, rfl, tk_B hM195 (ty_b3 (tk_k hM195)) b199 h200⟩
          refine w_iinc (A1 := [some (.ref 219), some (.long l_1), none, some (.long l_2), none, some (.ref a3), some (.int (vz i4)), some (.int (vz i5)), some (.int (vz (x8 + 1))), some (.int (vz x9)), some (.int (vz x10)), some (.long y11), none, some (.long y13), none]) e33_132 rfl (by decide) rfl ?_
          refine w_iinc (A1 := [some (.ref 219), some (.long l_1), none, some (.long l_2), none, some (.ref a3), some (.int (vz i4)), some (.int (vz i5)), some (.int (vz (x8 + 1))), some (.int (vz (x9 + 1))), some (.int (vz x10)), some (.long y11), none, some (.long y13), none]) e33_135 rfl (by decide) rfl ?_
          refine w_x e33_138 (fun _ => rfl) ?_
          exact w_sub (A1 := [some (.ref 219), some (.long l_1), none, some (.long l_2), none, some (.ref a3), some (.int (vz i4)), some (.int (vz i5)), some (.int (vz (x8 + 1))), some (.int (vz (x9 + 1))), some (.int (vz x10)), some (.long y11), none, some (.long y13), none]) (And.intro rfl (And.intro rfl (And.intro rfl (And.intro rfl (And.intro rfl (And.intro rfl (And.intro rfl (And.intro rfl (And.intro rfl (And.intro rfl (And.intro rfl trivial))))))))))) ((ih.2) v201 al202 (x8 + 1) (x9 + 1) x10 y11 y13 hM204 (by omega) (by omega) (by omega) (am_move hi0 hsk hL hS (by omega) (by omega) hk1 hNk hi1 (lgt_i h119 h120 (by omega)) hd194 hd203) hi1 hi2 hi3 (by omega))
set_option maxRecDepth 100000 in
set_option maxHeartbeats 4000000 in
theorem k33 {Z : Nat → Nat → Int} {al : Nat → Nat → Int64} {ai : Nat → Nat → Int} {az : Nat → Nat → Int32} {mm : Nat → Option Nat} {sk : Nat} {v0 vh : vm_H} (hM : tk Z al ai az mm sk v0 vh) (hk : kn Z) {l_1 : Int64} {l_2 : Int64} {a3 : Nat} (ha_3 : ty a3 = 1) {i4 : Int} (hi_4 : -2147483648 ≤ i4 ∧ i4 < 2147483648) {i5 : Int} (hi_5 : -2147483648 ≤ i5 ∧ i5 < 2147483648) {A f : Po} {Nk p lo nv : Nat} (hsk : sk = 0 ∨ sk = 2) (hL : pL Z al a3 f) (hg : gk nv f) (hn8 : nv ≤ 8) (hS : pS Z al sk A) (hk1 : l_1 = Int64.ofNat Nk) (hp : i4 = (p : Int) ∧ p < 8) (hl : i5 = (lo : Int)) (hNk : ∀ x, x ∈ f → x.1 + Nk < 2 ^ 63) (hroom : Z 219 0 + Z a3 0 ≤ 3660) : vm_Rp 1 30 33 [.ref 219, .long l_1, .long l_2, .ref a3, .int (vz i4), .int (vz i5)] vh (fun r v1 => (∃ (Z1 : Nat → Nat → Int) (al1 : Nat → Nat → Int64), (∃ A1, amR Z Z1 al al1 sk A Nk l_2 p lo f A1) ∧ kn Z1 ∧ tk Z1 al1 ai az mm (2 - sk) v0 v1) ∧ r = some (.int (vz 1))) := by
  have hk0 := hk a3 ha_3
  have hS1 := hS.1.1
  refine w_in (m := 7) ?_
  show vm_Wp _ _ _ 0 [some (.ref 219), some (.long l_1), none, some (.long l_2), none, some (.ref a3), some (.int (vz i4)), some (.int (vz i5)), none, none, none, none, none, none, none] [] _ _
  refine w_ldA e33_0 (fun _ => rfl) rfl ?_
  have e1 := tk_stp hM
  refine w_get e33_1 e1 rfl ?_
  refine w_ldA e33_4 (fun _ => rfl) rfl ?_
  have e2 := tk_poly hM ha_3
  have hk3 := hk a3 ha_3
  refine w_get e33_6 e2 rfl ?_
  refine w_iadd e33_9 ?_
  refine w_kS e33_10 rfl ?_
  refine w_ic e33_13 (by omega) (by omega) (fun (h4 : (Z 219 0) + (Z a3 0) ≤ 3660) => ?_) (fun (h4 : 3660 < (Z 219 0) + (Z a3 0)) => ?_)
  ·
    refine w_kI e33_18 ?_
    refine w_stI (j := 8) (A1 := [some (.ref 219), some (.long l_1), none, some (.long l_2), none, some (.ref a3), some (.int (vz i4)), some (.int (vz i5)), some (.int (vz 0)), none, none, none, none, none, none]) e33_19 (fun _ => rfl) (by decide) rfl ?_
    refine w_kI e33_21 ?_
    refine w_stI (j := 9) (A1 := [some (.ref 219), some (.long l_1), none, some (.long l_2), none, some (.ref a3), some (.int (vz i4)), some (.int (vz i5)), some (.int (vz 0)), some (.int (vz 0)), none, none, none, none, none]) e33_22 (fun _ => rfl) (by decide) rfl ?_
    refine w_kI e33_24 ?_
    refine w_stI (j := 10) (A1 := [some (.ref 219), some (.long l_1), none, some (.long l_2), none, some (.ref a3), some (.int (vz i4)), some (.int (vz i5)), some (.int (vz 0)), some (.int (vz 0)), some (.int (vz 0)), none, none, none, none]) e33_25 (fun _ => rfl) (by decide) rfl ?_
    exact w_sub (A1 := [some (.ref 219), some (.long l_1), none, some (.long l_2), none, some (.ref a3), some (.int (vz i4)), some (.int (vz i5)), some (.int (vz 0)), some (.int (vz 0)), some (.int (vz 0)), none, none, none, none]) (And.intro rfl (And.intro rfl (And.intro rfl (And.intro rfl (And.intro rfl (And.intro rfl (And.intro rfl (And.intro rfl (And.intro rfl trivial))))))))) (((k33_L (Z := Z) (al := al) (ai := ai) (az := az) (mm := mm) (sk := sk) (v0 := v0) (l_1 := l_1) (l_2 := l_2) (a3 := a3) (i4 := i4) (i5 := i5) (A := A) (f := f) (Nk := Nk) (p := p) (lo := lo) (nv := nv) hk ha_3 hi_4 hi_5 hsk hL hg hn8 hS hk1 hp hl hNk hroom _).1) vh al 0 0 0 hM (by omega) (by omega) (by omega) (am_0 hS hg.1.1) (Nat.lt_succ_self _))
  ·
    refine w_kI e33_16 ?_
    exfalso; omega
set_option maxRecDepth 100000 in
set_option maxHeartbeats 4000000 in
theorem k35_L {Z : Nat → Nat → Int} {al : Nat → Nat → Int64} {ai : Nat → Nat → Int} {az : Nat → Nat → Int32} {mm : Nat → Option Nat} {sk : Nat} {v0 vh : vm_H} (hM : tk Z al ai az mm sk v0 vh) (hk : kn Z) (h0 : 0 ≤ Z 219 0 ∧ Z 219 0 ≤ 3660) : ∀ N : Nat, (∀ (x1 : Int), (0 ≤ x1 ∧ x1 ≤ Z 219 0) → (∀ t : Nat, (t : Int) < x1 → (-67108864 ≤ (al (221 + sk) t).toInt ∧ (al (221 + sk) t).toInt ≤ 67108864) ∧ (al (220 + sk) t &&& Int64.ofNat 17361641481138401520) = 0) → (Z 219 0 ≤ 60) → ((4000 - x1 : Int).toNat < N) → vm_Wp 1 21 35 13 [some (.ref 219), some (.int (vz x1))] [] vh (vq_P 35 (fun r v1 => vh = v1 ∧ ∃ q : Int, ((0 ≤ q ∧ q ≤ 1) ∧ (q = 1 ↔ (Z 219 0 ≤ 60 ∧ ∀ t : Nat, (t : Int) < Z 219 0 → (-67108864 ≤ (al (221 + sk) t).toInt ∧ (al (221 + sk) t).toInt ≤ 67108864) ∧ (al (220 + sk) t &&& Int64.ofNat 17361641481138401520) = 0))) ∧ r = some (.int (vz q))))) := by
  intro N
  induction N with
  | zero => exact (by intros; omega)
  | succ N ih =>
    ·
      intro x1 hx1 hi0 hi1 hN
      refine w_ldI e35_13 (fun _ => rfl) rfl ?_
      refine w_ldA e35_14 (fun _ => rfl) rfl ?_
      have e3 := tk_stp hM
      refine w_get e35_15 e3 rfl ?_
      refine w_ic e35_18 (by omega) (tk_r hM 219 0) (fun (h4 : Z 219 0 ≤ x1) => ?_) (fun (h4 : x1 < Z 219 0) => ?_)
      ·
        refine w_kI e35_56 ?_
        exact w_rz e35_57 rfl (by omega) ⟨rfl, 1, ⟨by omega, fun _ => ⟨by omega, fun t ht => hi0 t (by omega)⟩, fun _ => rfl⟩, rfl⟩
      ·
        refine w_ldA e35_21 (fun _ => rfl) rfl ?_
        refine w_get e35_22 e3 rfl ?_
        refine w_ldI e35_25 (fun _ => rfl) rfl ?_
        have e5 := tk_big hM (ty_b1 (tk_k hM))
        refine w_lld e35_26 e5 (by omega) (by omega) (by decide) ?_
        refine w_cs e35_27 (by decide) (Nat.le_of_ble_eq_true rfl) (Nat.le_of_ble_eq_true rfl) (Nat.le_of_ble_eq_true rfl) (by decide) (by decide) (c74x) (fun o6 v7 hq8 => ?_)
        obtain ⟨rfl, q9, h10, rfl⟩ := hq8
        have hb11 := h10.1
        refine w_if e35_30 (by omega) (fun (h12 : q9 = 0) => ?_) (fun (h12 : q9 ≠ 0) => ?_)
        ·
          refine w_kI e35_48 ?_
          exact w_rz e35_49 rfl (by omega) ⟨rfl, 0, ⟨by omega, fun h9 => absurd h9 (by decide), fun h9 => by have h8 := h10.2.mpr (h9.2 (x1).toNat (by omega)).1; omega⟩, rfl⟩
        ·
          refine w_ldA e35_33 (fun _ => rfl) rfl ?_
          refine w_get e35_34 e3 rfl ?_
          refine w_ldI e35_37 (fun _ => rfl) rfl ?_
          have e13 := tk_big hM (ty_b0 (tk_k hM))
          refine w_lld e35_38 e13 (by omega) (by omega) (by decide) ?_
          refine w_x e35_39 (fun _ => rfl) ?_
          refine w_x e35_42 (fun _ => rfl) ?_
          refine w_x e35_43 (fun _ => rfl) ?_
          refine w_lcmp e35_44 (fun q14 (h15 : -1 ≤ q14 ∧ q14 ≤ 1) h16 h17 => ?_)
          refine w_if e35_45 (by omega) (fun (h18 : q14 = 0) => ?_) (fun (h18 : q14 ≠ 0) => ?_)
          ·
            refine w_iinc (A1 := [some (.ref 219), some (.int (vz (x1 + 1)))]) e35_50 rfl (by decide) rfl ?_
            refine w_x e35_53 (fun _ => rfl) ?_
            exact w_sub (A1 := [some (.ref 219), some (.int (vz (x1 + 1)))]) (And.intro rfl (And.intro rfl trivial)) ((ih) (x1 + 1) (by omega) (fun t ht => by by_cases h9 : (t : Int) < x1; exact hi0 t h9; rw [show t = (x1).toNat by omega]; exact ⟨h10.2.mp (by omega), (h16.mp (by omega))⟩) (by omega) (by omega))
          ·
            refine w_kI e35_48 ?_
            exact w_rz e35_49 rfl (by omega) ⟨rfl, 0, ⟨by omega, fun h9 => absurd h9 (by decide), fun h9 => absurd (h9.2 (x1).toNat (by omega)).2 (fun e9 => absurd (h16.mpr e9) (by omega))⟩, rfl⟩
set_option maxRecDepth 100000 in
set_option maxHeartbeats 4000000 in
theorem k35 {Z : Nat → Nat → Int} {al : Nat → Nat → Int64} {ai : Nat → Nat → Int} {az : Nat → Nat → Int32} {mm : Nat → Option Nat} {sk : Nat} {v0 vh : vm_H} (hM : tk Z al ai az mm sk v0 vh) (hk : kn Z) (h0 : 0 ≤ Z 219 0 ∧ Z 219 0 ≤ 3660) : vm_Rp 1 21 35 [.ref 219] vh (fun r v1 => vh = v1 ∧ ∃ q : Int, ((0 ≤ q ∧ q ≤ 1) ∧ (q = 1 ↔ (Z 219 0 ≤ 60 ∧ ∀ t : Nat, (t : Int) < Z 219 0 → (-67108864 ≤ (al (221 + sk) t).toInt ∧ (al (221 + sk) t).toInt ≤ 67108864) ∧ (al (220 + sk) t &&& Int64.ofNat 17361641481138401520) = 0))) ∧ r = some (.int (vz q))) := by
  refine w_in (m := 1) ?_
  show vm_Wp _ _ _ 0 [some (.ref 219), none] [] _ _
  refine w_ldA e35_0 (fun _ => rfl) rfl ?_
  have e1 := tk_stp hM
  refine w_get e35_1 e1 rfl ?_
  refine w_kB e35_4 rfl ?_
  refine w_ic e35_6 (tk_r hM 219 0) (by omega) (fun (h2 : Z 219 0 ≤ 60) => ?_) (fun (h2 : 60 < Z 219 0) => ?_)
  ·
    refine w_kI e35_11 ?_
    refine w_stI (j := 1) (A1 := [some (.ref 219), some (.int (vz 0))]) e35_12 (fun _ => rfl) (by decide) rfl ?_
    exact w_sub (A1 := [some (.ref 219), some (.int (vz 0))]) (And.intro rfl (And.intro rfl trivial)) (((k35_L (Z := Z) (al := al) (ai := ai) (az := az) (mm := mm) (sk := sk) (v0 := v0) (vh := vh) hM hk h0 _)) 0 (by omega) (fun t ht => by omega) (by omega) (Nat.lt_succ_self _))
  ·
    refine w_kI e35_9 ?_
    exact w_rz e35_10 rfl (by omega) ⟨rfl, 0, ⟨by omega, fun h9 => absurd h9 (by decide), fun h9 => by have := h9.1; omega⟩, rfl⟩
set_option maxRecDepth 100000 in
set_option maxHeartbeats 4000000 in
theorem k36 {Z : Nat → Nat → Int} {al : Nat → Nat → Int64} {ai : Nat → Nat → Int} {az : Nat → Nat → Int32} {mm : Nat → Option Nat} {sk : Nat} {v0 vh : vm_H} (hM : tk Z al ai az mm sk v0 vh) (hk : kn Z) {a1 : Nat} (ha_1 : ty a1 = 1) (h0 : 0 ≤ Z 219 0 ∧ Z 219 0 ≤ 60) : vm_Rp 1 30 36 [.ref 219, .ref a1] vh (fun r v1 => (∃ al1 : Nat → Nat → Int64, soK al al1 a1 sk (Z 219 0) ∧ tk (u2 Z a1 0 (Z 219 0)) al1 ai az mm sk v0 v1) ∧ r = none) := by
  have hs9 : a1 + 1 ≠ 221 + sk := ty_ne (ty_p ha_1).1 (ty_b1 (tk_k hM)) (by decide)
  refine w_in (m := 0) ?_
  show vm_Wp _ _ _ 0 [some (.ref 219), some (.ref a1)] [] _ _
  refine w_ldA e36_0 (fun _ => rfl) rfl ?_
  have e1 := tk_stp hM
  refine w_get e36_1 e1 rfl ?_
  refine w_kI e36_4 ?_
  refine w_ldA e36_5 (fun _ => rfl) rfl ?_
  have e2 := tk_poly hM ha_1
  have hk3 := hk a1 ha_1
  refine w_get e36_6 e2 rfl ?_
  refine w_kI e36_9 ?_
  refine w_ldA e36_10 (fun _ => rfl) rfl ?_
  refine w_get e36_11 e1 rfl ?_
  have e4 := tk_big hM (ty_b0 (tk_k hM))
  have e5 := tk_l60 hM (ty_p ha_1).1
  refine w_acL e36_14 e4 e5 (by omega) (by omega) (by omega) (by omega) (by omega) (by decide) (by decide) (Nat.le_of_ble_eq_true rfl) (by decide) (by decide) (fun v6 b7 h8 => ?_)
  obtain ⟨al9, hd10, hM11⟩ : ∃ z, z = uA al (a1 + 1) (va_cpy (al (220 + sk)) (al (a1 + 1)) (0 : Int).toNat (0 : Int).toNat (Z 219 0 : Int).toNat) ∧ tk Z z ai az mm sk v0 v6 := ⟨_, rfl, tk_A hM (ty_p ha_1).1 b7 h8⟩
  refine w_ldA e36_17 (fun _ => rfl) rfl ?_
  have e12 := tk_stp hM11
  refine w_get e36_18 e12 rfl ?_
  refine w_kI e36_21 ?_
  refine w_ldA e36_22 (fun _ => rfl) rfl ?_
  have e13 := tk_poly hM11 ha_1
  have hk14 := hk a1 ha_1
  refine w_get e36_23 e13 rfl ?_
  refine w_kI e36_26 ?_
  refine w_ldA e36_27 (fun _ => rfl) rfl ?_
  refine w_get e36_28 e12 rfl ?_
  have e15 := tk_big hM11 (ty_b1 (tk_k hM11))
  have e16 := tk_l60 hM11 (ty_p ha_1).2
  refine w_acL e36_31 e15 e16 (by omega) (by omega) (by omega) (by omega) (by omega) (by decide) (by decide) (Nat.le_of_ble_eq_true rfl) (by decide) (by decide) (fun v17 b18 h19 => ?_)
  obtain ⟨al20, hd21, hM22⟩ : ∃ z, z = uA al9 (a1 + 2) (va_cpy (al9 (221 + sk)) (al9 (a1 + 2)) (0 : Int).toNat (0 : Int).toNat (Z 219 0 : Int).toNat) ∧ tk Z z ai az mm sk v0 v17 := ⟨_, rfl, tk_A hM11 (ty_p ha_1).2 b18 h19⟩
  refine w_ldA e36_34 (fun _ => rfl) rfl ?_
  refine w_ldA e36_35 (fun _ => rfl) rfl ?_
  have e23 := tk_stp hM22
  refine w_get e36_36 e23 rfl ?_
  have e24 := tk_poly hM22 ha_1
  have hk25 := hk a1 ha_1
  refine w_put e36_39 e24 (Nat.le_of_ble_eq_true rfl) rfl (fun v28 b26 h27 => ?_)
  obtain ⟨Z29, hd30, hM31⟩ : ∃ z, z = u2 Z a1 0 (Z 219 0) ∧ tk z al20 ai az mm sk v0 v28 := ⟨_, rfl, tk_Zp hM22 ha_1 (tk_r hM22 219 0) b26 h27⟩
  have hk32 := kn_u hk hd30 (fun h9 => by omega)
  exact w_rv e36_42 rfl ⟨⟨al20, soK_i hs9 hd10 hd21, by have h9 := hM31; rw [hd30] at h9; exact h9⟩, rfl⟩
