set_option maxRecDepth 100000 in
set_option maxHeartbeats 4000000 in
theorem k32_L {Z : Nat → Nat → Int} {al : Nat → Nat → Int64} {ai : Nat → Nat → Int} {az : Nat → Nat → Int32} {mm : Nat → Option Nat} {sk : Nat} {v0 : vm_H} (hk : kn Z) {a1 : Nat} (ha_1 : ty a1 = 1) {a2 : Nat} (ha_2 : ty a2 = 3) {f b : Po} {p e nv : Nat} (hL : pL Z al a1 f) (hg : gk nv f) (hLb : pL Z al (a2 + 1) b) (hgb : gk nv b) (hn8 : nv ≤ 8) (hp : Z a2 0 = (p : Int) ∧ p < nv) (he : Z a2 1 = (e : Int) ∧ e < 256) (hde : e ≤ dgP f p) (hne : a1 ≠ a2 + 1) : ∀ N : Nat, (∀ (vh : vm_H) (Z_ : Nat → Nat → Int) (al_ : Nat → Nat → Int64) (sk_ : Nat) (x4 : Int) (y5 : Int64) (x8 : Int), (tk Z_ al_ ai az mm sk_ v0 vh) → (kn Z_) → (-2147483648 ≤ x4 ∧ x4 < 2147483648) → (0 ≤ x8 ∧ x8 ≤ Z (a2 + 1) 0) → (st1 f b p (dgP f p) e Z Z_ al al_ sk_ x8) → (y5 = Int64.ofNat (e * 256 ^ p)) → (x4 = (dgP f p : Int)) → ((1000 - x8 : Int).toNat < N) → vm_Wp 2 64 32 41 [some (.ref 219), some (.ref a1), some (.ref a2), some (.ref (a2 + 1)), some (.int (vz x4)), some (.long y5), none, some (.int (vz 1)), some (.int (vz x8))] [] vh (vq_P 32 (fun r v1 => ∃ (Z1 : Nat → Nat → Int) (al1 : Nat → Nat → Int64) (sk1 : Nat) (q : Int), ((0 ≤ q ∧ q ≤ 1) ∧ stO nv f b p (dgP f p) e Z Z1 al al1 a1 q) ∧ r = some (.int (vz q)) ∧ kn Z1 ∧ tk Z1 al1 ai az mm sk1 v0 v1))) ∧ (∀ (vh : vm_H) (Z_ : Nat → Nat → Int) (al_ : Nat → Nat → Int64) (sk_ : Nat) (x4 : Int) (y5 : Int64) (x8 : Int), (tk Z_ al_ ai az mm sk_ v0 vh) → (kn Z_) → (-2147483648 ≤ x4 ∧ x4 < 2147483648) → (0 ≤ x8 ∧ x8 ≤ Z a1 0) → (st2 f b p (dgP f p) e Z Z_ al al_ sk_ x8) → (y5 = Int64.ofNat (e * 256 ^ p)) → (x4 = (dgP f p : Int)) → ((500 - x8 : Int).toNat < N) → vm_Wp 2 64 32 113 [some (.ref 219), some (.ref a1), some (.ref a2), some (.ref (a2 + 1)), some (.int (vz x4)), some (.long y5), none, some (.int (vz 1)), some (.int (vz x8))] [] vh (vq_P 32 (fun r v1 => ∃ (Z1 : Nat → Nat → Int) (al1 : Nat → Nat → Int64) (sk1 : Nat) (q : Int), ((0 ≤ q ∧ q ≤ 1) ∧ stO nv f b p (dgP f p) e Z Z1 al al1 a1 q) ∧ r = some (.int (vz q)) ∧ kn Z1 ∧ tk Z1 al1 ai az mm sk1 v0 v1))) := by
  have hk1 := hk a1 ha_1
  have hk2 := hk (a2 + 1) (ty_r ha_2)
  intro N
  induction N with
  | zero => exact ⟨by intros; omega, by intros; omega⟩
  | succ N ih =>
    refine ⟨?_, ?_⟩
    ·
      intro vh Z_ al_ sk_ x4 y5 x8 hM hk_ hx4 hx8 hi0 hi1 hi2 hN
      have hi0b := hi0
      obtain ⟨A, hF, h2, h3⟩ := hi0b
      have hL_ := stF_pL hF ha_1 hL
      have hLb_ := stF_pL hF (ty_r ha_2) hLb
      have hFS := hF.2
      have hFS1 := hF.2.1.1
      have hz2 : Z_ a2 = Z a2 := stF_Z hF (fun z => by rw [z] at ha_2; cases ha_2)
      have hz3 : Z_ (a2 + 1) = Z (a2 + 1) := stF_Z hF (fun z => by have := ty_r ha_2; rw [z] at this; cases this)
      have hz1 : Z_ a1 = Z a1 := stF_Z hF (fun z => by rw [z] at ha_1; cases ha_1)
      have hp_ : Z_ a2 0 = (p : Int) := by rw [hz2]; exact hp.1
      have he_ : Z_ a2 1 = (e : Int) := by rw [hz2]; exact he.1
      have hzb : Z_ (a2 + 1) 0 = (b.length : Int) := by rw [hz3]; exact hLb.1
      have hzb0 := hLb.1
      have hzf : Z_ a1 0 = (f.length : Int) := by rw [hz1]; exact hL.1
      have hzf0 := hL.1
      have hbl := hgb.2.1.1
      have hfl := hg.2.1.1
      have hrm := st_rm1 h3 hbl hfl
      have hlb1 : al_ (a2 + 1 + 1) = al (a2 + 1 + 1) := hF.1.2 _ (by rw [(ty_p (ty_r ha_2)).1]; decide)
      have hlb2 : al_ (a2 + 1 + 2) = al (a2 + 1 + 2) := hF.1.2 _ (by rw [(ty_p (ty_r ha_2)).2]; decide)
      have hlf1 : al_ (a1 + 1) = al (a1 + 1) := hF.1.2 _ (by rw [(ty_p ha_1).1]; decide)
      have hlf2 : al_ (a1 + 2) = al (a1 + 2) := hF.1.2 _ (by rw [(ty_p ha_1).2]; decide)
      refine w_ldI e32_41 (fun _ => rfl) rfl ?_
      refine w_ldA e32_43 (fun _ => rfl) rfl ?_
      have e16 := tk_poly hM (ty_r ha_2)
      have hk17 := hk_ (a2 + 1) (ty_r ha_2)
      refine w_get e32_44 e16 rfl ?_
      refine w_ic e32_47 (by omega) (tk_r hM (a2 + 1) 0) (fun (h18 : Z_ (a2 + 1) 0 ≤ x8) => ?_) (fun (h18 : x8 < Z_ (a2 + 1) 0) => ?_)
      ·
        refine w_kI e32_110 ?_
        refine w_stI (j := 8) (A1 := [some (.ref 219), some (.ref a1), some (.ref a2), some (.ref (a2 + 1)), some (.int (vz x4)), some (.long y5), none, some (.int (vz 1)), some (.int (vz 0))]) e32_111 (fun _ => rfl) (by decide) rfl ?_
        exact w_sub (A1 := [some (.ref 219), some (.ref a1), some (.ref a2), some (.ref (a2 + 1)), some (.int (vz x4)), some (.long y5), none, some (.int (vz 1)), some (.int (vz 0))]) (And.intro rfl (And.intro rfl (And.intro rfl (And.intro rfl (And.intro rfl (And.intro rfl (And.intro rfl (And.intro rfl trivial)))))))) ((ih.2) vh Z_ al_ sk_ x4 y5 0 hM hk_ hx4 (by omega) (st_12 hi0 (by omega)) hi1 hi2 (by omega))
      ·
        refine w_ldA e32_50 (fun _ => rfl) rfl ?_
        refine w_get e32_51 e16 rfl ?_
        refine w_ldI e32_54 (fun _ => rfl) rfl ?_
        have e19 := tk_l60 hM (ty_p (ty_r ha_2)).1
        refine w_lld e32_56 e19 (by omega) (by omega) (by decide) ?_
        refine w_ldA e32_57 (fun _ => rfl) rfl ?_
        have e20 := tk_row hM ha_2
        refine w_get e32_58 e20 rfl ?_
        refine w_cs e32_61 (by decide) (Nat.le_of_ble_eq_true rfl) (Nat.le_of_ble_eq_true rfl) (Nat.le_of_ble_eq_true rfl) (by decide) (by decide) (c73x) (fun o21 v22 hq23 => ?_)
        obtain ⟨rfl, rfl⟩ := hq23
        have hp24 := pw_bd (((al_ (a2 + 1 + 1)) (x8).toNat)) (Z_ a2 0)
        refine w_ldA e32_64 (fun _ => rfl) rfl ?_
        refine w_get e32_65 e20 rfl ?_
        refine w_ic e32_68 (by omega) (tk_r hM a2 1) (fun (h25 : pw (((al_ (a2 + 1 + 1)) (x8).toNat)) (Z_ a2 0) ≠ Z_ a2 1) => ?_) (fun (h25 : pw (((al_ (a2 + 1 + 1)) (x8).toNat)) (Z_ a2 0) = Z_ a2 1) => ?_)
        ·
          refine w_iinc (A1 := [some (.ref 219), some (.ref a1), some (.ref a2), some (.ref (a2 + 1)), some (.int (vz x4)), some (.long y5), none, some (.int (vz 1)), some (.int (vz (x8 + 1)))]) e32_104 rfl (by decide) rfl ?_
          refine w_x e32_107 (fun _ => rfl) ?_
          exact w_sub (A1 := [some (.ref 219), some (.ref a1), some (.ref a2), some (.ref (a2 + 1)), some (.int (vz x4)), some (.long y5), none, some (.int (vz 1)), some (.int (vz (x8 + 1)))]) (And.intro rfl (And.intro rfl (And.intro rfl (And.intro rfl (And.intro rfl (And.intro rfl (And.intro rfl (And.intro rfl trivial)))))))) ((ih.1) vh Z_ al_ sk_ x4 y5 (x8 + 1) hM hk_ hx4 (by omega) (st1_n hi0 hLb hgb hn8 (by omega) (by omega) (by rw [← hlb1, ← hp_, ← he_]; exact h25)) hi1 hi2 (by omega))
        ·
          obtain ⟨y9, r1, r2, r3, r4⟩ := fx hLb (x10 := x8) (by omega)
          have hdy : dgt y9.1 p = e := (pw_lo hgb hn8 r4 ⟨hp_, by omega⟩ he_).mp (by rw [← r2, ← hlb1]; exact h25)
          have hkk : al_ (a2 + 1 + 1) (x8).toNat - y5 = Int64.ofNat (y9.1 - e * 256 ^ p) := ky hgb r4 hp.2 hn8 (by omega) hi1 (by rw [hlb1, r2])
          have hNN := kyb hgb r4 hg hp.2 hn8 (e := e) (by omega)
          have hcc : al_ (a2 + 1 + 2) (x8).toNat = y9.2 := by rw [hlb2, r3]
          refine w_ldI e32_71 (fun _ => rfl) rfl ?_
          refine w_ldA e32_73 (fun _ => rfl) rfl ?_
          refine w_ldA e32_74 (fun _ => rfl) rfl ?_
          refine w_get e32_75 e16 rfl ?_
          refine w_ldI e32_78 (fun _ => rfl) rfl ?_
          refine w_lld e32_80 e19 (by omega) (by omega) (by decide) ?_
          refine w_ldL e32_81 (fun _ => rfl) rfl ?_
          refine w_x e32_83 (fun _ => rfl) ?_
          refine w_ldA e32_84 (fun _ => rfl) rfl ?_
          refine w_get e32_85 e16 rfl ?_
          refine w_ldI e32_88 (fun _ => rfl) rfl ?_
          have e26 := tk_l60 hM (ty_p (ty_r ha_2)).2
          refine w_lld e32_90 e26 (by omega) (by omega) (by decide) ?_
          refine w_ldA e32_91 (fun _ => rfl) rfl ?_
          refine w_ldA e32_92 (fun _ => rfl) rfl ?_
          refine w_get e32_93 e20 rfl ?_
          refine w_ldI e32_96 (fun _ => rfl) rfl ?_
          have e27 := tk_stp hM
          refine w_cv e32_98 (by decide) rfl e27 rfl (Nat.le_of_ble_eq_true rfl) (Nat.le_of_ble_eq_true rfl) (Nat.le_of_ble_eq_true rfl) (by decide) (by decide) (k33 hM hk_ ha_1 (tk_r hM a2 0) hx4 (tk_k hM) hL_ hg hn8 hFS (hkk) ⟨hp_, by omega⟩ (by omega) (hNN) (by omega)) (fun o28 v29 hq30 => ?_)
          obtain ⟨⟨Z31, al32, ⟨A33, ha34⟩, hk35, hM36⟩, rfl⟩ := hq30
          refine w_x e32_101 (fun _ => rfl) ?_
          show vm_Wp _ _ _ 102 _ [.int (vz 1)] _ _
          refine w_stI (j := 7) (A1 := [some (.ref 219), some (.ref a1), some (.ref a2), some (.ref (a2 + 1)), some (.int (vz x4)), some (.long y5), none, some (.int (vz 1)), some (.int (vz x8))]) e32_102 (fun _ => rfl) (by decide) rfl ?_
          refine w_iinc (A1 := [some (.ref 219), some (.ref a1), some (.ref a2), some (.ref (a2 + 1)), some (.int (vz x4)), some (.long y5), none, some (.int (vz 1)), some (.int (vz (x8 + 1)))]) e32_104 rfl (by decide) rfl ?_
          refine w_x e32_107 (fun _ => rfl) ?_
          exact w_sub (A1 := [some (.ref 219), some (.ref a1), some (.ref a2), some (.ref (a2 + 1)), some (.int (vz x4)), some (.long y5), none, some (.int (vz 1)), some (.int (vz (x8 + 1)))]) (And.intro rfl (And.intro rfl (And.intro rfl (And.intro rfl (And.intro rfl (And.intro rfl (And.intro rfl (And.intro rfl trivial)))))))) ((ih.1) v29 Z31 al32 (2 - sk_) x4 y5 (x8 + 1) hM36 hk35 hx4 (by omega) (st1_y hF (tk_k hM) h2 h3 r1 hdy hcc ha34) hi1 hi2 (by omega))
    ·
      intro vh Z_ al_ sk_ x4 y5 x8 hM hk_ hx4 hx8 hi0 hi1 hi2 hN
      have hi0b := hi0
      obtain ⟨A, hF, h2, h3⟩ := hi0b
      have hL_ := stF_pL hF ha_1 hL
      have hLb_ := stF_pL hF (ty_r ha_2) hLb
      have hFS := hF.2
      have hFS1 := hF.2.1.1
      have hz2 : Z_ a2 = Z a2 := stF_Z hF (fun z => by rw [z] at ha_2; cases ha_2)
      have hz3 : Z_ (a2 + 1) = Z (a2 + 1) := stF_Z hF (fun z => by have := ty_r ha_2; rw [z] at this; cases this)
      have hz1 : Z_ a1 = Z a1 := stF_Z hF (fun z => by rw [z] at ha_1; cases ha_1)
      have hp_ : Z_ a2 0 = (p : Int) := by rw [hz2]; exact hp.1
      have he_ : Z_ a2 1 = (e : Int) := by rw [hz2]; exact he.1
      have hzb : Z_ (a2 + 1) 0 = (b.length : Int) := by rw [hz3]; exact hLb.1
      have hzb0 := hLb.1
      have hzf : Z_ a1 0 = (f.length : Int) := by rw [hz1]; exact hL.1
      have hzf0 := hL.1
      have hbl := hgb.2.1.1
      have hfl := hg.2.1.1
      have hrm := st_rm2 h3 hbl hfl
      have hlb1 : al_ (a2 + 1 + 1) = al (a2 + 1 + 1) := hF.1.2 _ (by rw [(ty_p (ty_r ha_2)).1]; decide)
      have hlb2 : al_ (a2 + 1 + 2) = al (a2 + 1 + 2) := hF.1.2 _ (by rw [(ty_p (ty_r ha_2)).2]; decide)
      have hlf1 : al_ (a1 + 1) = al (a1 + 1) := hF.1.2 _ (by rw [(ty_p ha_1).1]; decide)
      have hlf2 : al_ (a1 + 2) = al (a1 + 2) := hF.1.2 _ (by rw [(ty_p ha_1).2]; decide)
      refine w_ldI e32_113 (fun _ => rfl) rfl ?_
      refine w_ldA e32_115 (fun _ => rfl) rfl ?_
      have e37 := tk_poly hM ha_1
      have hk38 := hk_ a1 ha_1
      refine w_get e32_116 e37 rfl ?_
      refine w_ic e32_119 (by omega) (tk_r hM a1 0) (fun (h39 : Z_ a1 0 ≤ x8) => ?_) (fun (h39 : x8 < Z_ a1 0) => ?_)
      ·
        refine w_ldI e32_183 (fun _ => rfl) rfl ?_
        refine w_if e32_185 (by omega) (fun (h40 : 1 = 0) => ?_) (fun (h40 : 1 ≠ 0) => ?_)
        ·
          refine w_kI e32_195 ?_
          exfalso; omega
        ·
          refine w_ldA e32_188 (fun _ => rfl) rfl ?_
          have e41 := tk_stp hM
          refine w_cv e32_189 (by decide) rfl e41 rfl (Nat.le_of_ble_eq_true rfl) (Nat.le_of_ble_eq_true rfl) (Nat.le_of_ble_eq_true rfl) (by decide) (by decide) (k35 hM hk_ (by omega)) (fun o42 v43 hq44 => ?_)
          obtain ⟨rfl, q45, h46, rfl⟩ := hq44
          have hb47 := h46.1
          refine w_if e32_192 (by omega) (fun (h48 : q45 ≠ 0) => ?_) (fun (h48 : q45 = 0) => ?_)
          ·
            have hs60 := (h46.2.mp (by omega)).1
            refine w_ldA e32_197 (fun _ => rfl) rfl ?_
            refine w_ldA e32_198 (fun _ => rfl) rfl ?_
            refine w_cv e32_199 (by decide) rfl e41 rfl (Nat.le_of_ble_eq_true rfl) (Nat.le_of_ble_eq_true rfl) (Nat.le_of_ble_eq_true rfl) (by decide) (by decide) (k36 hM hk_ ha_1 (by omega)) (fun o49 v50 hq51 => ?_)
            obtain ⟨⟨al52, hc53, hM54⟩, rfl⟩ := hq51
            obtain ⟨Z56, hd57⟩ : ∃ z, z = u2 Z_ a1 0 (Z_ 219 0) := ⟨_, rfl⟩
            rw [← hd57] at hM54
            have hk55 := kn_u hk_ hd57 (fun _ => by omega)
            refine w_kI e32_202 ?_
            exact w_rz e32_203 rfl (by omega) ⟨Z56, al52, sk_, 1, ⟨by omega, stO_yes hF (st_fin h2 (by omega) hF.2.2.1) ((sn_iff hF.2).mpr (h46.2.mp (by omega))) hg hgb hp.2 hn8 hde hc53 hd57⟩, rfl, hk55, hM54⟩
          ·
            refine w_kI e32_195 ?_
            exact w_rz e32_196 rfl (by omega) ⟨Z_, al_, sk_, 0, ⟨by omega, stO_no hF (st_fin h2 (by omega) hF.2.2.1) (fun z => by have h9 := h46.2.mpr ((sn_iff hF.2).mp z); omega)⟩, rfl, hk_, hM⟩
      ·
        refine w_ldA e32_122 (fun _ => rfl) rfl ?_
        refine w_get e32_123 e37 rfl ?_
        refine w_ldI e32_126 (fun _ => rfl) rfl ?_
        have e58 := tk_l60 hM (ty_p ha_1).1
        refine w_lld e32_128 e58 (by omega) (by omega) (by decide) ?_
        refine w_ldA e32_129 (fun _ => rfl) rfl ?_
        have e59 := tk_row hM ha_2
        refine w_get e32_130 e59 rfl ?_
        refine w_cs e32_133 (by decide) (Nat.le_of_ble_eq_true rfl) (Nat.le_of_ble_eq_true rfl) (Nat.le_of_ble_eq_true rfl) (by decide) (by decide) (c73x) (fun o60 v61 hq62 => ?_)
        obtain ⟨rfl, rfl⟩ := hq62
        have hp63 := pw_bd (((al_ (a1 + 1)) (x8).toNat)) (Z_ a2 0)
        refine w_ldI e32_136 (fun _ => rfl) rfl ?_
        refine w_ic e32_138 (by omega) hx4 (fun (h64 : pw (((al_ (a1 + 1)) (x8).toNat)) (Z_ a2 0) ≠ x4) => ?_) (fun (h64 : pw (((al_ (a1 + 1)) (x8).toNat)) (Z_ a2 0) = x4) => ?_)
        ·
          refine w_iinc (A1 := [some (.ref 219), some (.ref a1), some (.ref a2), some (.ref (a2 + 1)), some (.int (vz x4)), some (.long y5), none, some (.int (vz 1)), some (.int (vz (x8 + 1)))]) e32_177 rfl (by decide) rfl ?_
          refine w_x e32_180 (fun _ => rfl) ?_
          exact w_sub (A1 := [some (.ref 219), some (.ref a1), some (.ref a2), some (.ref (a2 + 1)), some (.int (vz x4)), some (.long y5), none, some (.int (vz 1)), some (.int (vz (x8 + 1)))]) (And.intro rfl (And.intro rfl (And.intro rfl (And.intro rfl (And.intro rfl (And.intro rfl (And.intro rfl (And.intro rfl trivial)))))))) ((ih.2) vh Z_ al_ sk_ x4 y5 (x8 + 1) hM hk_ hx4 (by omega) (st2_n hi0 hL hg hn8 (by omega) (by omega) (by rw [← hlf1, ← hp_, ← hi2]; exact h64)) hi1 hi2 (by omega))
        ·
          obtain ⟨y9, r1, r2, r3, r4⟩ := fx hL (x10 := x8) (by omega)
          have hdy : dgt y9.1 p = dgP f p := (pw_lo hg hn8 r4 ⟨hp_, by omega⟩ hi2).mp (by rw [← r2, ← hlf1]; exact h64)
          have hkk : al_ (a1 + 1) (x8).toNat - y5 = Int64.ofNat (y9.1 - e * 256 ^ p) := ky hg r4 hp.2 hn8 (by omega) hi1 (by rw [hlf1, r2])
          have hNN := kyb hg r4 hgb hp.2 hn8 (e := e) (by omega)
          have hcc : -al_ (a1 + 2) (x8).toNat = -y9.2 := by rw [hlf2, r3]
          refine w_ldI e32_141 (fun _ => rfl) rfl ?_
          refine w_ldA e32_143 (fun _ => rfl) rfl ?_
          refine w_ldA e32_144 (fun _ => rfl) rfl ?_
          refine w_get e32_145 e37 rfl ?_
          refine w_ldI e32_148 (fun _ => rfl) rfl ?_
          refine w_lld e32_150 e58 (by omega) (by omega) (by decide) ?_
          refine w_ldL e32_151 (fun _ => rfl) rfl ?_
          refine w_x e32_153 (fun _ => rfl) ?_
          refine w_ldA e32_154 (fun _ => rfl) rfl ?_
          refine w_get e32_155 e37 rfl ?_
          refine w_ldI e32_158 (fun _ => rfl) rfl ?_
          have e65 := tk_l60 hM (ty_p ha_1).2
          refine w_lld e32_160 e65 (by omega) (by omega) (by decide) ?_
          refine w_x e32_161 (fun _ => rfl) ?_
          refine w_ldA e32_162 (fun _ => rfl) rfl ?_
          refine w_ldA e32_163 (fun _ => rfl) rfl ?_
          refine w_get e32_164 e59 rfl ?_
          refine w_ldA e32_167 (fun _ => rfl) rfl ?_
          refine w_get e32_168 e59 rfl ?_
          have e66 := tk_stp hM
          refine w_cv e32_171 (by decide) rfl e66 rfl (Nat.le_of_ble_eq_true rfl) (Nat.le_of_ble_eq_true rfl) (Nat.le_of_ble_eq_true rfl) (by decide) (by decide) (k33 hM hk_ (ty_r ha_2) (tk_r hM a2 0) (tk_r hM a2 1) (tk_k hM) hLb_ hgb hn8 hFS (hkk) ⟨hp_, by omega⟩ (by omega) (hNN) (by omega)) (fun o67 v68 hq69 => ?_)
          obtain ⟨⟨Z70, al71, ⟨A72, ha73⟩, hk74, hM75⟩, rfl⟩ := hq69
          refine w_x e32_174 (fun _ => rfl) ?_
          show vm_Wp _ _ _ 175 _ [.int (vz 1)] _ _
          refine w_stI (j := 7) (A1 := [some (.ref 219), some (.ref a1), some (.ref a2), some (.ref (a2 + 1)), some (.int (vz x4)), some (.long y5), none, some (.int (vz 1)), some (.int (vz x8))]) e32_175 (fun _ => rfl) (by decide) rfl ?_
          refine w_iinc (A1 := [some (.ref 219), some (.ref a1), some (.ref a2), some (.ref (a2 + 1)), some (.int (vz x4)), some (.long y5), none, some (.int (vz 1)), some (.int (vz (x8 + 1)))]) e32_177 rfl (by decide) rfl ?_
          refine w_x e32_180 (fun _ => rfl) ?_
          exact w_sub (A1 := [some (.ref 219), some (.ref a1), some (.ref a2), some (.ref (a2 + 1)), some (.int (vz x4)), some (.long y5), none, some (.int (vz 1)), some (.int (vz (x8 + 1)))]) (And.intro rfl (And.intro rfl (And.intro rfl (And.intro rfl (And.intro rfl (And.intro rfl (And.intro rfl (And.intro rfl trivial)))))))) ((ih.2) v68 Z70 al71 (2 - sk_) x4 y5 (x8 + 1) hM75 hk74 hx4 (by omega) (st2_y hF (tk_k hM) h2 h3 r1 hdy hcc ha73) hi1 hi2 (by omega))
set_option maxRecDepth 100000 in
set_option maxHeartbeats 4000000 in
theorem k32 {Z : Nat → Nat → Int} {al : Nat → Nat → Int64} {ai : Nat → Nat → Int} {az : Nat → Nat → Int32} {mm : Nat → Option Nat} {sk : Nat} {v0 vh : vm_H} (hM : tk Z al ai az mm sk v0 vh) (hk : kn Z) {a1 : Nat} (ha_1 : ty a1 = 1) {a2 : Nat} (ha_2 : ty a2 = 3) {f b : Po} {p e nv : Nat} (hL : pL Z al a1 f) (hg : gk nv f) (hLb : pL Z al (a2 + 1) b) (hgb : gk nv b) (hn8 : nv ≤ 8) (hp : Z a2 0 = (p : Int) ∧ p < nv) (he : Z a2 1 = (e : Int) ∧ e < 256) (hde : e ≤ dgP f p) (hne : a1 ≠ a2 + 1) : vm_Rp 2 64 32 [.ref 219, .ref a1, .ref a2] vh (fun r v1 => ∃ (Z1 : Nat → Nat → Int) (al1 : Nat → Nat → Int64) (sk1 : Nat) (q : Int), ((0 ≤ q ∧ q ≤ 1) ∧ stO nv f b p (dgP f p) e Z Z1 al al1 a1 q) ∧ r = some (.int (vz q)) ∧ kn Z1 ∧ tk Z1 al1 ai az mm sk1 v0 v1) := by
  have hk1 := hk a1 ha_1
  have hk2 := hk (a2 + 1) (ty_r ha_2)
  refine w_in (m := 6) ?_
  show vm_Wp _ _ _ 0 [some (.ref 219), some (.ref a1), some (.ref a2), none, none, none, none, none, none] [] _ _
  refine w_ldA e32_0 (fun _ => rfl) rfl ?_
  have e1 := tk_row hM ha_2
  refine w_get e32_1 e1 rfl ?_
  refine w_stA (j := 3) (A1 := [some (.ref 219), some (.ref a1), some (.ref a2), some (.ref (a2 + 1)), none, none, none, none, none]) e32_4 (fun _ => rfl) (by decide) rfl ?_
  refine w_ldA e32_5 (fun _ => rfl) rfl ?_
  refine w_ldA e32_6 (fun _ => rfl) rfl ?_
  refine w_get e32_7 e1 rfl ?_
  have e2 := tk_poly hM ha_1
  have hk3 := hk a1 ha_1
  refine w_cv e32_10 (by decide) rfl e2 rfl (Nat.le_of_ble_eq_true rfl) (Nat.le_of_ble_eq_true rfl) (Nat.le_of_ble_eq_true rfl) (by decide) (by decide) (k22 hM hk ha_1 (tk_r hM a2 0)) (fun o4 v5 hq6 => ?_)
  obtain ⟨rfl, rfl⟩ := hq6
  have hp7 := dgk_bd (al (a1 + 1)) (Z a2 0) (Z a1 0).toNat
  refine w_stI (j := 4) (A1 := [some (.ref 219), some (.ref a1), some (.ref a2), some (.ref (a2 + 1)), some (.int (vz (dgk (al (a1 + 1)) (Z a2 0) (Z a1 0).toNat))), none, none, none, none]) e32_13 (fun _ => rfl) (by decide) rfl ?_
  refine w_ldA e32_15 (fun _ => rfl) rfl ?_
  refine w_get e32_16 e1 rfl ?_
  refine w_x e32_19 (fun _ => rfl) ?_
  refine w_kB e32_20 rfl ?_
  refine w_ldA e32_22 (fun _ => rfl) rfl ?_
  refine w_get e32_23 e1 rfl ?_
  refine w_imul e32_26 ?_
  refine w_x e32_27 (fun _ => rfl) ?_
  refine w_stL (j := 5) (A1 := [some (.ref 219), some (.ref a1), some (.ref a2), some (.ref (a2 + 1)), some (.int (vz (dgk (al (a1 + 1)) (Z a2 0) (Z a1 0).toNat))), some (.long (((vz (Z a2 1)).toInt64 <<< ((vz (8 * (Z a2 0))).toInt64 &&& 63)))), none, none, none]) e32_28 (fun _ => rfl) (by decide) rfl ?_
  refine w_kI e32_30 ?_
  refine w_stI (j := 7) (A1 := [some (.ref 219), some (.ref a1), some (.ref a2), some (.ref (a2 + 1)), some (.int (vz (dgk (al (a1 + 1)) (Z a2 0) (Z a1 0).toNat))), some (.long (((vz (Z a2 1)).toInt64 <<< ((vz (8 * (Z a2 0))).toInt64 &&& 63)))), none, some (.int (vz 1)), none]) e32_31 (fun _ => rfl) (by decide) rfl ?_
  refine w_ldA e32_33 (fun _ => rfl) rfl ?_
  refine w_kI e32_34 ?_
  have e8 := tk_stp hM
  refine w_put e32_35 e8 (Nat.le_of_ble_eq_true rfl) rfl (fun v11 b9 h10 => ?_)
  obtain ⟨Z12, hd13, hM14⟩ : ∃ z, z = u2 Z 219 0 0 ∧ tk z al ai az mm sk v0 v11 := ⟨_, rfl, tk_Zs hM (by omega) b9 h10⟩
  have hk15 := kn_u hk hd13 (fun h9 => absurd h9 (by decide))
  refine w_kI e32_38 ?_
  refine w_stI (j := 8) (A1 := [some (.ref 219), some (.ref a1), some (.ref a2), some (.ref (a2 + 1)), some (.int (vz (dgk (al (a1 + 1)) (Z a2 0) (Z a1 0).toNat))), some (.long (((vz (Z a2 1)).toInt64 <<< ((vz (8 * (Z a2 0))).toInt64 &&& 63)))), none, some (.int (vz 1)), some (.int (vz 0))]) e32_39 (fun _ => rfl) (by decide) rfl ?_
  exact w_sub (A1 := [some (.ref 219), some (.ref a1), some (.ref a2), some (.ref (a2 + 1)), some (.int (vz (dgk (al (a1 + 1)) (Z a2 0) (Z a1 0).toNat))), some (.long (((vz (Z a2 1)).toInt64 <<< ((vz (8 * (Z a2 0))).toInt64 &&& 63)))), none, some (.int (vz 1)), some (.int (vz 0))]) (And.intro rfl (And.intro rfl (And.intro rfl (And.intro rfl (And.intro rfl (And.intro rfl (And.intro rfl (And.intro rfl trivial)))))))) (((k32_L (Z := Z) (al := al) (ai := ai) (az := az) (mm := mm) (sk := sk) (v0 := v0) (a1 := a1) (a2 := a2) (f := f) (b := b) (p := p) (e := e) (nv := nv) hk ha_1 ha_2 hL hg hLb hgb hn8 hp he hde hne _).1) v11 Z12 al sk (dgk (al (a1 + 1)) (Z a2 0) (Z a1 0).toNat) (((vz (Z a2 1)).toInt64 <<< ((vz (8 * (Z a2 0))).toInt64 &&& 63))) 0 hM14 hk15 (by omega) (by omega) (st_0 hd13) (by rw [hp.1, he.1]; exact lead_e he.2 (by omega)) (by rw [hp.1]; have h9 := pL_dg hL hg hn8 (p := (p : Int)) (by omega); rw [Int.toNat_natCast] at h9; exact h9) (Nat.lt_succ_self _))
