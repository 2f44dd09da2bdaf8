set_option maxRecDepth 100000 in
set_option maxHeartbeats 4000000 in
theorem r104_L {sc : Nat → Int} {ai : Nat → Nat → Int} {al : Nat → Nat → Int64} {az : Nat → Nat → Int32} {v0 : vm_H} (hK : tmok ai) {i1 : Int} (hi_1 : -2147483648 ≤ i1 ∧ i1 < 2147483648) {fr : Nat → Bool} {V : Nat → Nat} {nv : Nat} (hv : sc 1 = (nv : Int)) (hvr : vR ai = V) (hfr : frR az ai = fr) (hV : pmV V nv) {n m : Nat} {U : Nat → Po} {S : Nat → Po × Nat × Nat} (hU : usQ V nv n U ai al) (hn16 : n ≤ 16) (h4 : sc 4 = (n : Int)) (hG : tbG V nv sc ai al az []) (h10 : sc 10 = 0 ∨ sc 10 = 1) (hms : sc 10 = 1 → msQ fr V nv sc ai al m S) : ∀ N : Nat, (∀ (vh : vm_H) (sc_ : Nat → Int) (ai_ : Nat → Nat → Int) (al_ : Nat → Nat → Int64) (x2 : Int), (tm sc_ ai_ al_ az v0 vh) → (tmok ai_) → (0 ≤ x2 ∧ x2 ≤ sc 11) → (sc_ = u1 (u1 sc 0 0) 40 (sc 11)) → (b5I V nv ai ai_ al al_ (U (i1).toNat) x2) → ((0 ≤ i1 ∧ i1 < sc 4) ∧ sc 10 = 1) → (ai_ 242 68 = ai 242 68) → ((100000 + 8 - x2 : Int).toNat < N) → vm_Wp 6 157 104 39 [some (.ref 238), some (.int (vz i1)), some (.int (vz x2)), none] [] vh (vq_P 104 (fun r v1 => ∃ (sc1 : Nat → Int) (ai1 : Nat → Nat → Int) (al1 : Nat → Nat → Int64) (az1 : Nat → Nat → Int32) (q : Int), ((q = -1 ∧ (¬ (0 ≤ i1 ∧ i1 < sc 4) ∨ sc 10 = 0) ∧ sc1 = u1 sc 0 0 ∧ ai1 = ai ∧ al1 = al ∧ az1 = az) ∨ ((0 ≤ i1 ∧ i1 < sc 4) ∧ sc 10 = 1 ∧ pqO V nv (rdP S 200 m (U (i1).toNat)) sc1 ai1 al1 q)) ∧ ai1 242 68 = ai 242 68 ∧ r = some (.int (vz q)) ∧ tmok ai1 ∧ tm sc1 ai1 al1 az1 v0 v1))) ∧ (∀ (vh : vm_H) (sc_ : Nat → Int) (ai_ : Nat → Nat → Int) (al_ : Nat → Nat → Int64) (az_ : Nat → Nat → Int32) (x3 : Int), (tm sc_ ai_ al_ az_ v0 vh) → (tmok ai_) → (0 ≤ x3 ∧ x3 ≤ 8) → (pvQ V nv (rdP S 200 m (U (i1).toNat)) sc_ ai_ al_) → ((0 ≤ i1 ∧ i1 < sc 4) ∧ sc 10 = 1) → (ai_ 242 68 = ai 242 68) → ((50000 + 8 - x3 : Int).toNat < N) → vm_Wp 6 157 104 132 [some (.ref 238), some (.int (vz i1)), none, some (.int (vz x3))] [] vh (vq_P 104 (fun r v1 => ∃ (sc1 : Nat → Int) (ai1 : Nat → Nat → Int) (al1 : Nat → Nat → Int64) (az1 : Nat → Nat → Int32) (q : Int), ((q = -1 ∧ (¬ (0 ≤ i1 ∧ i1 < sc 4) ∨ sc 10 = 0) ∧ sc1 = u1 sc 0 0 ∧ ai1 = ai ∧ al1 = al ∧ az1 = az) ∨ ((0 ≤ i1 ∧ i1 < sc 4) ∧ sc 10 = 1 ∧ pqO V nv (rdP S 200 m (U (i1).toNat)) sc1 ai1 al1 q)) ∧ ai1 242 68 = ai 242 68 ∧ r = some (.int (vz q)) ∧ tmok ai1 ∧ tm sc1 ai1 al1 az1 v0 v1))) ∧ (∀ (vh : vm_H) (sc_ : Nat → Int) (ai_ : Nat → Nat → Int) (al_ : Nat → Nat → Int64) (az_ : Nat → Nat → Int32) (x3 : Int), (tm sc_ ai_ al_ az_ v0 vh) → (tmok ai_) → (0 ≤ x3 ∧ x3 ≤ sc_ 19) → (pvQ V nv (rdP S 200 m (U (i1).toNat)) sc_ ai_ al_) → ((0 ≤ i1 ∧ i1 < sc 4) ∧ sc 10 = 1) → (ai_ 242 68 = ai 242 68) → ((40000 + 300 - x3 : Int).toNat < N) → vm_Wp 6 157 104 153 [some (.ref 238), some (.int (vz i1)), none, some (.int (vz x3))] [] vh (vq_P 104 (fun r v1 => ∃ (sc1 : Nat → Int) (ai1 : Nat → Nat → Int) (al1 : Nat → Nat → Int64) (az1 : Nat → Nat → Int32) (q : Int), ((q = -1 ∧ (¬ (0 ≤ i1 ∧ i1 < sc 4) ∨ sc 10 = 0) ∧ sc1 = u1 sc 0 0 ∧ ai1 = ai ∧ al1 = al ∧ az1 = az) ∨ ((0 ≤ i1 ∧ i1 < sc 4) ∧ sc 10 = 1 ∧ pqO V nv (rdP S 200 m (U (i1).toNat)) sc1 ai1 al1 q)) ∧ ai1 242 68 = ai 242 68 ∧ r = some (.int (vz q)) ∧ tmok ai1 ∧ tm sc1 ai1 al1 az1 v0 v1))) ∧ (∀ (vh : vm_H) (sc_ : Nat → Int) (ai_ : Nat → Nat → Int) (al_ : Nat → Nat → Int64) (az_ : Nat → Nat → Int32) (x3 : Int), (tm sc_ ai_ al_ az_ v0 vh) → (tmok ai_) → (0 ≤ x3 ∧ x3 ≤ 12300) → (pvQ V nv (rdP S 200 m (U (i1).toNat)) sc_ ai_ al_) → ((0 ≤ i1 ∧ i1 < sc 4) ∧ sc 10 = 1) → (ai_ 242 68 = ai 242 68) → ((20000 - x3 : Int).toNat < N) → vm_Wp 6 157 104 220 [some (.ref 238), some (.int (vz i1)), none, some (.int (vz x3))] [] vh (vq_P 104 (fun r v1 => ∃ (sc1 : Nat → Int) (ai1 : Nat → Nat → Int) (al1 : Nat → Nat → Int64) (az1 : Nat → Nat → Int32) (q : Int), ((q = -1 ∧ (¬ (0 ≤ i1 ∧ i1 < sc 4) ∨ sc 10 = 0) ∧ sc1 = u1 sc 0 0 ∧ ai1 = ai ∧ al1 = al ∧ az1 = az) ∨ ((0 ≤ i1 ∧ i1 < sc 4) ∧ sc 10 = 1 ∧ pqO V nv (rdP S 200 m (U (i1).toNat)) sc1 ai1 al1 q)) ∧ ai1 242 68 = ai 242 68 ∧ r = some (.int (vz q)) ∧ tmok ai1 ∧ tm sc1 ai1 al1 az1 v0 v1))) := by
  intro N
  induction N with
  | zero => exact ⟨by intros; omega, by intros; omega, by intros; omega, by intros; omega⟩
  | succ N ih =>
    refine ⟨?_, ?_, ?_, ?_⟩
    ·
      intro vh sc_ ai_ al_ x2 hM hK_ hx2 hi0q hi1 hi2 hi3 hN
      have hs11 : sc_ 11 = sc 11 := by rw [hi0q, u1_o (by decide), u1_o (by decide)]
      have hmsx := hms hi2.2
      have hmsa := hmsx.1.1
      have hmsb := hmsx.1.2
      refine w_ldI e104_39 (fun _ => rfl) rfl ?_
      refine w_ldA e104_40 (fun _ => rfl) rfl ?_
      have e32 := tm_o hM
      refine w_get e104_41 e32 rfl ?_
      refine w_ic e104_44 (by omega) (tm_s hM 11) (fun (h33 : sc_ 11 ≤ x2) => ?_) (fun (h33 : x2 < sc_ 11) => ?_)
      ·
        refine w_ldA e104_63 (fun _ => rfl) rfl ?_
        refine w_kI e104_64 ?_
        refine w_put e104_65 e32 (Nat.le_of_ble_eq_true rfl) rfl (fun v36 b34 h35 => ?_)
        obtain ⟨sc37, hd39, hM38⟩ : ∃ z, z = u1 sc_ 27 (0) ∧ tm z ai_ al_ az v0 v36 := ⟨_, rfl, tm_ps 27 hM (by omega) b34 h35⟩
        refine w_ldA e104_68 (fun _ => rfl) rfl ?_
        refine w_kI e104_69 ?_
        have e40 := tm_o hM38
        refine w_put e104_70 e40 (Nat.le_of_ble_eq_true rfl) rfl (fun v43 b41 h42 => ?_)
        obtain ⟨sc44, hd46, hM45⟩ : ∃ z, z = u1 sc37 28 (0) ∧ tm z ai_ al_ az v0 v43 := ⟨_, rfl, tm_ps 28 hM38 (by omega) b41 h42⟩
        refine w_ldA e104_73 (fun _ => rfl) rfl ?_
        refine w_kI e104_74 ?_
        refine w_kS e104_75 rfl ?_
        have e47 := tm_o hM45
        have hs38 : sc44 38 = sc 38 := by rw [hd46, u1_o (by decide), hd39, u1_o (by decide), hi0q, u1_o (by decide), u1_o (by decide)]
        have hs1 : sc44 1 = sc 1 := by rw [hd46, u1_o (by decide), hd39, u1_o (by decide), hi0q, u1_o (by decide), u1_o (by decide)]
        have hs40 : sc44 40 = sc 11 := by rw [hd46, u1_o (by decide), hd39, u1_o (by decide), hi0q, u1_s]
        have hs27 : sc44 27 = 0 ∧ sc44 28 = 0 := ⟨by rw [hd46, u1_o (by decide), hd39, u1_s], by rw [hd46, u1_s]⟩
        refine w_cv e104_78 (by decide) rfl e47 rfl (Nat.le_of_ble_eq_true rfl) (Nat.le_of_ble_eq_true rfl) (Nat.le_of_ble_eq_true rfl) (by decide) (by decide) (r93k hM45 hK_ (by omega) (by omega) (fr := fr) (V := V) (nv := nv) (n := m) (S := S) (f0 := U (i1).toNat) (hs1.trans hv) ((aK_vR (az := az) (az1 := az) (b5_a hi1)).trans hvr) ((aK_fr (b5_a hi1)).trans hfr) hV (b5_G hi1 hG hs38) (b5_q hi1) (hU (i1).toNat (by omega)).2 (b5_b hi1 hK (by omega) hmsx) (by rw [hs40]; exact hmsx.1.1) hmsx.1.2 rfl hs27) (fun o48 v49 hq50 => ?_)
        obtain ⟨sc51, ai52, al53, az54, q55, ho56, hkp57, rfl, hK58, hM59⟩ := hq50
        have hrb := ho56.1.1
        have hr41 := ho56.1.2.2
        refine w_stI (j := 2) (A1 := [some (.ref 238), some (.int (vz i1)), some (.int (vz q55)), none]) e104_81 (fun _ => rfl) (by decide) rfl ?_
        refine w_ldA e104_82 (fun _ => rfl) rfl ?_
        refine w_ldA e104_83 (fun _ => rfl) rfl ?_
        have e60 := tm_o hM59
        refine w_get e104_84 e60 rfl ?_
        refine w_put e104_87 e60 (Nat.le_of_ble_eq_true rfl) rfl (fun v63 b61 h62 => ?_)
        obtain ⟨sc64, hd66, hM65⟩ : ∃ z, z = u1 sc51 17 (sc51 41) ∧ tm z ai52 al53 az54 v0 v63 := ⟨_, rfl, tm_ps 17 hM59 (tm_s hM59 41) b61 h62⟩
        refine w_ldA e104_90 (fun _ => rfl) rfl ?_
        refine w_ldI e104_91 (fun _ => rfl) rfl ?_
        have e67 := tm_o hM65
        refine w_put e104_92 e67 (Nat.le_of_ble_eq_true rfl) (vz_okz (by omega)) (fun v70 b68 h69 => ?_)
        obtain ⟨sc71, hd73, hM72⟩ : ∃ z, z = u1 sc64 12 (q55) ∧ tm z ai52 al53 az54 v0 v70 := ⟨_, rfl, tm_ps 12 hM65 (by omega) b68 h69⟩
        refine w_ldI e104_95 (fun _ => rfl) rfl ?_
        refine w_if e104_96 (by omega) (fun (h74 : q55 ≠ 0) => ?_) (fun (h74 : q55 = 0) => ?_)
        ·
          refine w_ldA e104_101 (fun _ => rfl) rfl ?_
          refine w_kB e104_102 rfl ?_
          refine w_kB e104_104 rfl ?_
          have e75 := tm_o hM72
          refine w_cv e104_106 (by decide) rfl e75 rfl (Nat.le_of_ble_eq_true rfl) (Nat.le_of_ble_eq_true rfl) (Nat.le_of_ble_eq_true rfl) (by decide) (by decide) (r81 hM72 hK58 (by omega) (by omega) (ho56.2.1 (by omega)).1 (by decide)) (fun o76 v77 hq78 => ?_)
          obtain ⟨⟨al79, ai80, hc81, hK82, hM83⟩, rfl⟩ := hq78
          refine w_ldA e104_109 (fun _ => rfl) rfl ?_
          refine w_kI e104_110 ?_
          have e84 := tm_o hM83
          refine w_put e104_111 e84 (Nat.le_of_ble_eq_true rfl) (vz_okz (by omega)) (fun v87 b85 h86 => ?_)
          obtain ⟨sc88, hd90, hM89⟩ : ∃ z, z = u1 sc71 18 (1) ∧ tm z ai80 al79 az54 v0 v87 := ⟨_, rfl, tm_ps 18 hM83 (by omega) b85 h86⟩
          refine w_ldA e104_114 (fun _ => rfl) rfl ?_
          refine w_ldA e104_115 (fun _ => rfl) rfl ?_
          have e91 := tm_o hM89
          refine w_get e104_116 e91 rfl ?_
          refine w_put e104_119 e91 (Nat.le_of_ble_eq_true rfl) rfl (fun v94 b92 h93 => ?_)
          obtain ⟨sc95, hd97, hM96⟩ : ∃ z, z = u1 sc88 19 (sc88 27) ∧ tm z ai80 al79 az54 v0 v94 := ⟨_, rfl, tm_ps 19 hM89 (tm_s hM89 27) b92 h93⟩
          refine w_ldA e104_122 (fun _ => rfl) rfl ?_
          refine w_ldA e104_123 (fun _ => rfl) rfl ?_
          have e98 := tm_o hM96
          refine w_get e104_124 e98 rfl ?_
          refine w_put e104_127 e98 (Nat.le_of_ble_eq_true rfl) rfl (fun v101 b99 h100 => ?_)
          obtain ⟨sc102, hd104, hM103⟩ : ∃ z, z = u1 sc95 25 (sc95 28) ∧ tm z ai80 al79 az54 v0 v101 := ⟨_, rfl, tm_ps 25 hM96 (tm_s hM96 28) b99 h100⟩
          refine w_kI e104_130 ?_
          refine w_stI (j := 3) (A1 := [some (.ref 238), some (.int (vz i1)), some (.int (vz q55)), some (.int (vz 0))]) e104_131 (fun _ => rfl) (by decide) rfl ?_
          exact w_sub (A1 := [some (.ref 238), some (.int (vz i1)), none, some (.int (vz 0))]) (And.intro rfl (And.intro rfl (And.intro rfl trivial))) ((ih.2.1) v101 sc102 ai80 al79 az54 0 hM103 hK82 (by omega) (pq_0 ho56 (rd_le (S := S) 200 m (U (i1).toNat)) hkp57 (by omega) hd66 rfl hd73 rfl hc81 hd90 hd97 rfl hd104 rfl) hi2 (by rw [hc81.1, u2_o (by decide), ho56.2.2.2.2.1.2 68 (by decide) (by decide)]; exact hi3) (by omega))
        ·
          refine w_kI e104_99 ?_
          exact w_ri e104_100 rfl ⟨sc71, ai52, al53, az54, 2, Or.inr ⟨hi2.1, hi2.2, pq_no ho56 (by omega) hd66 rfl hd73 rfl⟩, by rw [ho56.2.2.2.2.1.2 68 (by decide) (by decide)]; exact hi3, rfl, hK58, hM72⟩
      ·
        refine w_ldA e104_47 (fun _ => rfl) rfl ?_
        refine w_get e104_48 e32 rfl ?_
        refine w_ldI e104_51 (fun _ => rfl) rfl ?_
        refine w_kB e104_52 rfl ?_
        refine w_ldI e104_54 (fun _ => rfl) rfl ?_
        refine w_iadd e104_55 ?_
        have e105 := tm_i hM (a := 261) (n := 8) rfl
        refine w_ast e104_56 e105 (by omega) (by omega) (by decide) (by decide) (fun v108 b106 h107 => ?_)
        obtain ⟨ai109, hd111, hM110⟩ : ∃ z, z = u2 ai_ 261 (x2).toNat (58 + x2) ∧ tm sc_ z al_ az v0 v108 := ⟨_, rfl, tm_pi hM rfl (by omega) b106 h107⟩
        have hK112 : tmok ai109 := by rw [hd111]; exact tmok_u hK_ (by decide) (by decide)
        refine w_iinc (A1 := [some (.ref 238), some (.int (vz i1)), some (.int (vz (x2 + 1))), none]) e104_57 rfl (by decide) rfl ?_
        refine w_x e104_60 (fun _ => rfl) ?_
        exact w_sub (A1 := [some (.ref 238), some (.int (vz i1)), some (.int (vz (x2 + 1))), none]) (And.intro rfl (And.intro rfl (And.intro rfl trivial))) ((ih.1) v108 sc_ ai109 al_ (x2 + 1) hM110 hK112 (by omega) hi0q (b5_s hi1 (by omega) rfl rfl hd111) hi2 (by rw [hd111, u2_af (by decide)]; exact hi3) (by omega))
    ·
      intro vh sc_ ai_ al_ az_ x3 hM hK_ hx3 hi0q hi1 hi2 hN
      have hb19 := hi0q.2.2.2.1
      have hb25 := hi0q.2.2.2.2.1
      have hb67 := hK_.1 67
      refine w_ldI e104_132 (fun _ => rfl) rfl ?_
      refine w_kB e104_133 rfl ?_
      refine w_ic e104_135 (by omega) (by omega) (fun (h113 : 8 ≤ x3) => ?_) (fun (h113 : x3 < 8) => ?_)
      ·
        refine w_kI e104_151 ?_
        refine w_stI (j := 3) (A1 := [some (.ref 238), some (.int (vz i1)), none, some (.int (vz 0))]) e104_152 (fun _ => rfl) (by decide) rfl ?_
        exact w_sub (A1 := [some (.ref 238), some (.int (vz i1)), none, some (.int (vz 0))]) (And.intro rfl (And.intro rfl (And.intro rfl trivial))) ((ih.2.2.1) vh sc_ ai_ al_ az_ 0 hM hK_ (by omega) hi0q hi1 hi2 (by omega))
      ·
        refine w_ldA e104_138 (fun _ => rfl) rfl ?_
        have e114 := tm_o hM
        refine w_get e104_139 e114 rfl ?_
        refine w_ldI e104_142 (fun _ => rfl) rfl ?_
        refine w_kI e104_143 ?_
        have e115 := tm_i hM (a := 251) (n := 8) rfl
        refine w_ast e104_144 e115 (by omega) (by omega) (by decide) (by decide) (fun v118 b116 h117 => ?_)
        obtain ⟨ai119, hd121, hM120⟩ : ∃ z, z = u2 ai_ 251 (x3).toNat 0 ∧ tm sc_ z al_ az_ v0 v118 := ⟨_, rfl, tm_pi hM rfl (by omega) b116 h117⟩
        have hK122 : tmok ai119 := by rw [hd121]; exact tmok_u hK_ (by decide) (by decide)
        refine w_iinc (A1 := [some (.ref 238), some (.int (vz i1)), none, some (.int (vz (x3 + 1)))]) e104_145 rfl (by decide) rfl ?_
        refine w_x e104_148 (fun _ => rfl) ?_
        exact w_sub (A1 := [some (.ref 238), some (.int (vz i1)), none, some (.int (vz (x3 + 1)))]) (And.intro rfl (And.intro rfl (And.intro rfl trivial))) ((ih.2.1) v118 sc_ ai119 al_ az_ (x3 + 1) hM120 hK122 (by omega) (pq_a hi0q (by decide) (by decide) hd121) hi1 (by rw [hd121, u2_af (by decide)]; exact hi2) (by omega))
    ·
      intro vh sc_ ai_ al_ az_ x3 hM hK_ hx3 hi0q hi1 hi2 hN
      have hb19 := hi0q.2.2.2.1
      have hb25 := hi0q.2.2.2.2.1
      have hb67 := hK_.1 67
      refine w_ldI e104_153 (fun _ => rfl) rfl ?_
      refine w_ldA e104_154 (fun _ => rfl) rfl ?_
      have e123 := tm_o hM
      refine w_get e104_155 e123 rfl ?_
      refine w_ic e104_158 (by omega) (tm_s hM 19) (fun (h124 : sc_ 19 ≤ x3) => ?_) (fun (h124 : x3 < sc_ 19) => ?_)
      ·
        refine w_kI e104_218 ?_
        refine w_stI (j := 3) (A1 := [some (.ref 238), some (.int (vz i1)), none, some (.int (vz 0))]) e104_219 (fun _ => rfl) (by decide) rfl ?_
        exact w_sub (A1 := [some (.ref 238), some (.int (vz i1)), none, some (.int (vz 0))]) (And.intro rfl (And.intro rfl (And.intro rfl trivial))) ((ih.2.2.2) vh sc_ ai_ al_ az_ 0 hM hK_ (by omega) hi0q hi1 hi2 (by omega))
      ·
        refine w_ldA e104_161 (fun _ => rfl) rfl ?_
        refine w_get e104_162 e123 rfl ?_
        refine w_ldI e104_165 (fun _ => rfl) rfl ?_
        refine w_ldA e104_166 (fun _ => rfl) rfl ?_
        refine w_get e104_167 e123 rfl ?_
        refine w_ldI e104_170 (fun _ => rfl) rfl ?_
        have e125 := tm_i hM (a := 252) (n := 256) rfl
        refine w_ald e104_171 e125 (by omega) (by omega) (by decide) ?_
        show vm_Wp _ _ _ 172 _ [.int (vz (ai_ 252 (x3).toNat)), .int (vz x3), .ref 246] _ _
        have e126 := tm_i hM (a := 246) (n := 256) rfl
        refine w_ast e104_172 e126 (by omega) (by omega) (by decide) (by decide) (fun v129 b127 h128 => ?_)
        obtain ⟨ai130, hd132, hM131⟩ : ∃ z, z = u2 ai_ 246 (x3).toNat (ai_ 252 (x3).toNat) ∧ tm sc_ z al_ az_ v0 v129 := ⟨_, rfl, tm_pi hM rfl (tm_r hM 252 (x3).toNat) b127 h128⟩
        have hK133 : tmok ai130 := by rw [hd132]; exact tmok_u hK_ (by decide) (by decide)
        refine w_ldA e104_173 (fun _ => rfl) rfl ?_
        have e134 := tm_o hM131
        refine w_get e104_174 e134 rfl ?_
        refine w_ldI e104_177 (fun _ => rfl) rfl ?_
        refine w_ldA e104_178 (fun _ => rfl) rfl ?_
        refine w_get e104_179 e134 rfl ?_
        refine w_ldI e104_182 (fun _ => rfl) rfl ?_
        have e135 := tm_i hM131 (a := 253) (n := 256) rfl
        refine w_ald e104_183 e135 (by omega) (by omega) (by decide) ?_
        show vm_Wp _ _ _ 184 _ [.int (vz (ai130 253 (x3).toNat)), .int (vz x3), .ref 247] _ _
        have e136 := tm_i hM131 (a := 247) (n := 256) rfl
        refine w_ast e104_184 e136 (by omega) (by omega) (by decide) (by decide) (fun v139 b137 h138 => ?_)
        obtain ⟨ai140, hd142, hM141⟩ : ∃ z, z = u2 ai130 247 (x3).toNat (ai130 253 (x3).toNat) ∧ tm sc_ z al_ az_ v0 v139 := ⟨_, rfl, tm_pi hM131 rfl (tm_r hM131 253 (x3).toNat) b137 h138⟩
        have hK143 : tmok ai140 := by rw [hd142]; exact tmok_u hK133 (by decide) (by decide)
        refine w_ldA e104_185 (fun _ => rfl) rfl ?_
        have e144 := tm_o hM141
        refine w_get e104_186 e144 rfl ?_
        refine w_ldI e104_189 (fun _ => rfl) rfl ?_
        refine w_ldA e104_190 (fun _ => rfl) rfl ?_
        refine w_get e104_191 e144 rfl ?_
        refine w_ldI e104_194 (fun _ => rfl) rfl ?_
        have e145 := tm_i hM141 (a := 254) (n := 256) rfl
        refine w_ald e104_195 e145 (by omega) (by omega) (by decide) ?_
        show vm_Wp _ _ _ 196 _ [.int (vz (ai140 254 (x3).toNat)), .int (vz x3), .ref 248] _ _
        have e146 := tm_i hM141 (a := 248) (n := 256) rfl
        refine w_ast e104_196 e146 (by omega) (by omega) (by decide) (by decide) (fun v149 b147 h148 => ?_)
        obtain ⟨ai150, hd152, hM151⟩ : ∃ z, z = u2 ai140 248 (x3).toNat (ai140 254 (x3).toNat) ∧ tm sc_ z al_ az_ v0 v149 := ⟨_, rfl, tm_pi hM141 rfl (tm_r hM141 254 (x3).toNat) b147 h148⟩
        have hK153 : tmok ai150 := by rw [hd152]; exact tmok_u hK143 (by decide) (by decide)
        refine w_ldA e104_197 (fun _ => rfl) rfl ?_
        have e154 := tm_o hM151
        refine w_get e104_198 e154 rfl ?_
        refine w_ldA e104_201 (fun _ => rfl) rfl ?_
        refine w_get e104_202 e154 rfl ?_
        refine w_ldI e104_205 (fun _ => rfl) rfl ?_
        have e155 := tm_i hM151 (a := 252) (n := 256) rfl
        refine w_ald e104_206 e155 (by omega) (by omega) (by decide) ?_
        show vm_Wp _ _ _ 207 _ [.int (vz (ai150 252 (x3).toNat)), .ref 251] _ _
        have hnb156 := (pq_a (pq_a (pq_a hi0q (by decide) (by decide) hd132) (by decide) (by decide) hd142) (by decide) (by decide) hd152).2.2.2.2.2 (x3).toNat (by omega)
        refine w_x e104_207 (fun _ => rfl) ?_
        have e157 := tm_i hM151 (a := 251) (n := 8) rfl
        refine w_ald e104_208 e157 (by omega) (by omega) (by decide) ?_
        show vm_Wp _ _ _ 209 _ [.int (vz (ai150 251 (ai150 252 (x3).toNat).toNat)), .int (vz (ai150 252 (x3).toNat)), .ref 251] _ _
        refine w_kI e104_209 ?_
        refine w_iadd e104_210 ?_
        refine w_norm (fun q158 h159 => ?_)
        refine w_ast e104_211 e157 (by omega) (by omega) (by decide) (by decide) (fun v162 b160 h161 => ?_)
        obtain ⟨ai163, hd165, hM164⟩ : ∃ z, z = u2 ai150 251 (ai150 252 (x3).toNat).toNat q158 ∧ tm sc_ z al_ az_ v0 v162 := ⟨_, rfl, tm_pi hM151 rfl h159 b160 h161⟩
        have hK166 : tmok ai163 := by rw [hd165]; exact tmok_u hK153 (by decide) (by decide)
        refine w_iinc (A1 := [some (.ref 238), some (.int (vz i1)), none, some (.int (vz (x3 + 1)))]) e104_212 rfl (by decide) rfl ?_
        refine w_x e104_215 (fun _ => rfl) ?_
        exact w_sub (A1 := [some (.ref 238), some (.int (vz i1)), none, some (.int (vz (x3 + 1)))]) (And.intro rfl (And.intro rfl (And.intro rfl trivial))) ((ih.2.2.1) v162 sc_ ai163 al_ az_ (x3 + 1) hM164 hK166 (by omega) (pq_a (pq_a (pq_a (pq_a hi0q (by decide) (by decide) hd132) (by decide) (by decide) hd142) (by decide) (by decide) hd152) (by decide) (by decide) hd165) hi1 (by rw [hd165, u2_af (by decide), hd152, u2_af (by decide), hd142, u2_af (by decide), hd132, u2_af (by decide)]; exact hi2) (by omega))
    ·
      intro vh sc_ ai_ al_ az_ x3 hM hK_ hx3 hi0q hi1 hi2 hN
      have hb19 := hi0q.2.2.2.1
      have hb25 := hi0q.2.2.2.2.1
      have hb67 := hK_.1 67
      refine w_ldI e104_220 (fun _ => rfl) rfl ?_
      refine w_ldA e104_221 (fun _ => rfl) rfl ?_
      have e167 := tm_o hM
      refine w_get e104_222 e167 rfl ?_
      refine w_ic e104_225 (by omega) (tm_s hM 25) (fun (h168 : sc_ 25 ≤ x3) => ?_) (fun (h168 : x3 < sc_ 25) => ?_)
      ·
        refine w_ldA e104_258 (fun _ => rfl) rfl ?_
        refine w_get e104_259 e167 rfl ?_
        refine w_kB e104_262 rfl ?_
        have e169 := tm_i hM (a := 242) (n := 72) rfl
        refine w_ald e104_264 e169 (by omega) (by omega) (by decide) ?_
        show vm_Wp _ _ _ 265 _ [.int (vz (ai_ 242 67))] _ _
        have hk170 := hK_.1 67
        refine w_if e104_265 (tm_r hM 242 67) (fun (h171 : ai_ 242 67 ≠ 0) => ?_) (fun (h171 : ai_ 242 67 = 0) => ?_)
        ·
          refine w_kI e104_272 ?_
          exact w_ri e104_273 rfl ⟨sc_, ai_, al_, az_, 0, Or.inr ⟨hi1.1, hi1.2, pq_e hi0q (by omega)⟩, hi2, rfl, hK_, hM⟩
        ·
          refine w_kI e104_268 ?_
          refine w_x e104_269 (fun _ => rfl) ?_
          exact w_ri e104_273 rfl ⟨sc_, ai_, al_, az_, 1, Or.inr ⟨hi1.1, hi1.2, pq_e hi0q (by omega)⟩, hi2, rfl, hK_, hM⟩
      ·
        refine w_ldA e104_228 (fun _ => rfl) rfl ?_
        refine w_get e104_229 e167 rfl ?_
        refine w_ldI e104_232 (fun _ => rfl) rfl ?_
        refine w_ldA e104_233 (fun _ => rfl) rfl ?_
        refine w_get e104_234 e167 rfl ?_
        refine w_ldI e104_237 (fun _ => rfl) rfl ?_
        have e172 := tm_l hM (a := 255) (n := 12300) rfl
        refine w_lld e104_238 e172 (by omega) (by omega) (by decide) ?_
        have e173 := tm_l hM (a := 249) (n := 12300) rfl
        refine w_lst e104_239 e173 (by omega) (by omega) (by decide) (fun v176 b174 h175 => ?_)
        obtain ⟨al177, hd179, hM178⟩ : ∃ z, z = u2 al_ 249 (x3).toNat ((al_ 255 (x3).toNat)) ∧ tm sc_ ai_ z az_ v0 v176 := ⟨_, rfl, tm_pl hM rfl b174 h175⟩
        refine w_ldA e104_240 (fun _ => rfl) rfl ?_
        have e180 := tm_o hM178
        refine w_get e104_241 e180 rfl ?_
        refine w_ldI e104_244 (fun _ => rfl) rfl ?_
        refine w_ldA e104_245 (fun _ => rfl) rfl ?_
        refine w_get e104_246 e180 rfl ?_
        refine w_ldI e104_249 (fun _ => rfl) rfl ?_
        have e181 := tm_l hM178 (a := 256) (n := 12300) rfl
        refine w_lld e104_250 e181 (by omega) (by omega) (by decide) ?_
        have e182 := tm_l hM178 (a := 250) (n := 12300) rfl
        refine w_lst e104_251 e182 (by omega) (by omega) (by decide) (fun v185 b183 h184 => ?_)
        obtain ⟨al186, hd188, hM187⟩ : ∃ z, z = u2 al177 250 (x3).toNat ((al177 256 (x3).toNat)) ∧ tm sc_ ai_ z az_ v0 v185 := ⟨_, rfl, tm_pl hM178 rfl b183 h184⟩
        refine w_iinc (A1 := [some (.ref 238), some (.int (vz i1)), none, some (.int (vz (x3 + 1)))]) e104_252 rfl (by decide) rfl ?_
        refine w_x e104_255 (fun _ => rfl) ?_
        exact w_sub (A1 := [some (.ref 238), some (.int (vz i1)), none, some (.int (vz (x3 + 1)))]) (And.intro rfl (And.intro rfl (And.intro rfl trivial))) ((ih.2.2.2) v185 sc_ ai_ al186 az_ (x3 + 1) hM187 hK_ (by omega) (pq_l (pq_l hi0q (by decide) (by decide) hd179) (by decide) (by decide) hd188) hi1 hi2 (by omega))
set_option maxRecDepth 100000 in
set_option maxHeartbeats 4000000 in
theorem r104 {sc : Nat → Int} {ai : Nat → Nat → Int} {al : Nat → Nat → Int64} {az : Nat → Nat → Int32} {v0 vh : vm_H} (hM : tm sc ai al az v0 vh) (hK : tmok ai) {i1 : Int} (hi_1 : -2147483648 ≤ i1 ∧ i1 < 2147483648) {fr : Nat → Bool} {V : Nat → Nat} {nv : Nat} (hv : sc 1 = (nv : Int)) (hvr : vR ai = V) (hfr : frR az ai = fr) (hV : pmV V nv) {n m : Nat} {U : Nat → Po} {S : Nat → Po × Nat × Nat} (hU : usQ V nv n U ai al) (hn16 : n ≤ 16) (h4 : sc 4 = (n : Int)) (hG : tbG V nv sc ai al az []) (h10 : sc 10 = 0 ∨ sc 10 = 1) (hms : sc 10 = 1 → msQ fr V nv sc ai al m S) : vm_Rp 6 157 104 [.ref 238, .int (vz i1)] vh (fun r v1 => ∃ (sc1 : Nat → Int) (ai1 : Nat → Nat → Int) (al1 : Nat → Nat → Int64) (az1 : Nat → Nat → Int32) (q : Int), ((q = -1 ∧ (¬ (0 ≤ i1 ∧ i1 < sc 4) ∨ sc 10 = 0) ∧ sc1 = u1 sc 0 0 ∧ ai1 = ai ∧ al1 = al ∧ az1 = az) ∨ ((0 ≤ i1 ∧ i1 < sc 4) ∧ sc 10 = 1 ∧ pqO V nv (rdP S 200 m (U (i1).toNat)) sc1 ai1 al1 q)) ∧ ai1 242 68 = ai 242 68 ∧ r = some (.int (vz q)) ∧ tmok ai1 ∧ tm sc1 ai1 al1 az1 v0 v1) := by
  refine w_in (m := 2) ?_
  show vm_Wp _ _ _ 0 [some (.ref 238), some (.int (vz i1)), none, none] [] _ _
  refine w_ldA e104_0 (fun _ => rfl) rfl ?_
  refine w_kI e104_1 ?_
  have e1 := tm_o hM
  refine w_put e104_2 e1 (Nat.le_of_ble_eq_true rfl) rfl (fun v4 b2 h3 => ?_)
  obtain ⟨sc5, hd7, hM6⟩ : ∃ z, z = u1 sc 0 (0) ∧ tm z ai al az v0 v4 := ⟨_, rfl, tm_ps 0 hM (by omega) b2 h3⟩
  have hs1 : sc5 1 = sc 1 := by rw [hd7, u1_o (by decide)]
  have hs4 : sc5 4 = sc 4 := by rw [hd7, u1_o (by decide)]
  have hs10 : sc5 10 = sc 10 := by rw [hd7, u1_o (by decide)]
  have hs11 : sc5 11 = sc 11 := by rw [hd7, u1_o (by decide)]
  refine w_ldA e104_5 (fun _ => rfl) rfl ?_
  refine w_ldI e104_6 (fun _ => rfl) rfl ?_
  have e8 := tm_o hM6
  refine w_cv e104_7 (by decide) rfl e8 rfl (Nat.le_of_ble_eq_true rfl) (Nat.le_of_ble_eq_true rfl) (Nat.le_of_ble_eq_true rfl) (by decide) (by decide) (r103 hM6 hK hi_1) (fun o9 v10 hq11 => ?_)
  obtain ⟨rfl, q12, h13, rfl⟩ := hq11
  have hb14 := h13
  refine w_if e104_10 (by omega) (fun (h15 : q12 ≠ 0) => ?_) (fun (h15 : q12 = 0) => ?_)
  ·
    refine w_kI e104_20 ?_
    exact w_ri e104_21 rfl ⟨sc5, ai, al, az, -1, Or.inl ⟨rfl, by omega, hd7, rfl, rfl, rfl⟩, rfl, rfl, hK, hM6⟩
  ·
    refine w_ldA e104_13 (fun _ => rfl) rfl ?_
    refine w_get e104_14 e8 rfl ?_
    refine w_if e104_17 (tm_s hM6 10) (fun (h16q : sc5 10 ≠ 0) => ?_) (fun (h16q : sc5 10 = 0) => ?_)
    ·
      obtain ⟨⟨h11, hm8⟩, hmj⟩ := id (hms (by omega))
      have hUi := hU (i1).toNat (by omega)
      refine w_ldA e104_22 (fun _ => rfl) rfl ?_
      refine w_ldI e104_23 (fun _ => rfl) rfl ?_
      refine w_kB e104_24 rfl ?_
      refine w_cv e104_26 (by decide) rfl e8 rfl (Nat.le_of_ble_eq_true rfl) (Nat.le_of_ble_eq_true rfl) (Nat.le_of_ble_eq_true rfl) (by decide) (by decide) (r81 hM6 hK (by omega) (by omega) (hU (i1).toNat (by omega)).1 (by omega)) (fun o17 v18 hq19 => ?_)
      obtain ⟨⟨al20, ai21, hc22, hK23, hM24⟩, rfl⟩ := hq19
      refine w_ldA e104_29 (fun _ => rfl) rfl ?_
      refine w_ldA e104_30 (fun _ => rfl) rfl ?_
      have e25 := tm_o hM24
      refine w_get e104_31 e25 rfl ?_
      refine w_put e104_34 e25 (Nat.le_of_ble_eq_true rfl) rfl (fun v28 b26 h27 => ?_)
      obtain ⟨sc29, hd31, hM30⟩ : ∃ z, z = u1 sc5 40 (sc5 11) ∧ tm z ai21 al20 az v0 v28 := ⟨_, rfl, tm_ps 40 hM24 (tm_s hM24 11) b26 h27⟩
      have hs11 : sc29 11 = sc 11 := by rw [hd31, u1_o (by decide)]; exact hs11
      refine w_kI e104_37 ?_
      refine w_stI (j := 2) (A1 := [some (.ref 238), some (.int (vz i1)), some (.int (vz 0)), none]) e104_38 (fun _ => rfl) (by decide) rfl ?_
      exact w_sub (A1 := [some (.ref 238), some (.int (vz i1)), some (.int (vz 0)), none]) (And.intro rfl (And.intro rfl (And.intro rfl trivial))) (((r104_L (sc := sc) (ai := ai) (al := al) (az := az) (v0 := v0) (i1 := i1) (fr := fr) (V := V) (nv := nv) (n := n) (m := m) (U := U) (S := S) hK hi_1 hv hvr hfr hV hU hn16 h4 hG h10 hms _).1) v28 sc29 ai21 al20 0 hM30 hK23 (by omega) (by rw [hd31, hd7, u1_o (by decide)]) (b5_0 hc22) (by omega) (by rw [hc22.1, u2_o (by decide)]) (Nat.lt_succ_self _))
    ·
      refine w_kI e104_20 ?_
      exact w_ri e104_21 rfl ⟨sc5, ai, al, az, -1, Or.inl ⟨rfl, by omega, hd7, rfl, rfl, rfl⟩, rfl, rfl, hK, hM6⟩
