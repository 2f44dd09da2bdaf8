set_option maxRecDepth 100000 in
set_option maxHeartbeats 4000000 in
theorem c108x_L {sc : Nat → Int} {ai : Nat → Nat → Int} {al : Nat → Nat → Int64} {az : Nat → Nat → Int32} {v0 : vm_H} (hK0 : tmok ai) (hI : gi sc ai al az) {i1 : Int} (hi_1 : -2147483648 ≤ i1 ∧ i1 < 2147483648) {l_2 : Int64} {i3 : Int} (hi_3 : -2147483648 ≤ i3 ∧ i3 < 2147483648) (hR : ri2 sc ai al az) : ∀ N : Nat, (∀ (vh : vm_H) (sc_ : Nat → Int) (y5 : Int64) (x7 : Int), (tm sc_ ai al az v0 vh) → (tmok ai) → (gi sc_ ai al az) → (fr [0, 10, 11, 12, 18] [] (i1).toNat (i1).toNat sc ai al az sc_ ai al az) → (0 ≤ x7 ∧ x7 ≤ 8) → (ri2 sc_ ai al az) → ((sc_ 1 = sc 1 ∧ sc_ 4 = sc 4) ∧ (0 ≤ i1 ∧ i1 < sc 4)) → (y5 = kof idv (vz i3) (x7).toNat) → (vlx (vz i3) (sc 1) x7) → ((2000 + 8 - x7 : Int).toNat < N) → vm_Wp 3 77 108 21 [some (.ref 238), some (.int (vz i1)), some (.long l_2), none, some (.int (vz i3)), some (.long y5), none, some (.int (vz x7)), none, none, none, none, none] [] vh (vq_P 108 (fun r v1 => (∃ (sc1 : Nat → Int) (ai1 : Nat → Nat → Int) (al1 : Nat → Nat → Int64) (az1 : Nat → Nat → Int32), tm sc1 ai1 al1 az1 v0 v1 ∧ tmok ai1 ∧ gi sc1 ai1 al1 az1 ∧ fr [0, 10, 11, 12, 18] [] (i1).toNat (i1).toNat sc ai al az sc1 ai1 al1 az1 ∧ (ri2 sc1 ai1 al1 az1 ∧ ∃ q : Int, ((q = 0 ∧ ai1 = ai ∧ al1 = al ∧ (¬ (0 ≤ i1 ∧ i1 < sc 4) ∨ ¬ val (sc 1).toNat (vz i3))) ∨ ((0 ≤ i1 ∧ i1 < sc 4) ∧ val (sc 1).toNat (vz i3) ∧ ∃ t : Int, fnd (fun j => al 244 ((60 * i1).toNat + j)) (ai 242 (i1).toNat) (kof idv (vz i3) 8) t ∧ rtr (ls (pr_ al (60 * i1).toNat) (ai 242 (i1).toNat).toNat) (fun j => al 244 ((60 * i1).toNat + j)) (fun j => al 243 ((60 * i1).toNat + j)) (ai 242 (i1).toNat) (kof idv (vz i3) 8) l_2 q (ai1 242 (i1).toNat) (ls (pr_ al1 (60 * i1).toNat) (ai1 242 (i1).toNat).toNat) t)) ∧ r = some (.int (vz q))))))) ∧ (∀ (vh : vm_H) (sc_ : Nat → Int) (y5 : Int64) (x7 : Int) (x8 : Int), (tm sc_ ai al az v0 vh) → (tmok ai) → (gi sc_ ai al az) → (fr [0, 10, 11, 12, 18] [] (i1).toNat (i1).toNat sc ai al az sc_ ai al az) → (x7 = 60 * i1) → (0 ≤ x8 ∧ x8 ≤ ai 242 (i1).toNat) → (ri2 sc_ ai al az) → ((sc_ 1 = sc 1 ∧ sc_ 4 = sc 4) ∧ (0 ≤ i1 ∧ i1 < sc 4)) → (y5 = kof idv (vz i3) 8) → (val (sc 1).toNat (vz i3)) → (∀ j : Nat, (j : Int) < x8 → al 244 ((60 * i1).toNat + j) ≠ y5) → ((1000 + 60 - x8 : Int).toNat < N) → vm_Wp 3 77 108 85 [some (.ref 238), some (.int (vz i1)), some (.long l_2), none, some (.int (vz i3)), some (.long y5), none, some (.int (vz x7)), some (.int (vz x8)), none, none, none, none] [] vh (vq_P 108 (fun r v1 => (∃ (sc1 : Nat → Int) (ai1 : Nat → Nat → Int) (al1 : Nat → Nat → Int64) (az1 : Nat → Nat → Int32), tm sc1 ai1 al1 az1 v0 v1 ∧ tmok ai1 ∧ gi sc1 ai1 al1 az1 ∧ fr [0, 10, 11, 12, 18] [] (i1).toNat (i1).toNat sc ai al az sc1 ai1 al1 az1 ∧ (ri2 sc1 ai1 al1 az1 ∧ ∃ q : Int, ((q = 0 ∧ ai1 = ai ∧ al1 = al ∧ (¬ (0 ≤ i1 ∧ i1 < sc 4) ∨ ¬ val (sc 1).toNat (vz i3))) ∨ ((0 ≤ i1 ∧ i1 < sc 4) ∧ val (sc 1).toNat (vz i3) ∧ ∃ t : Int, fnd (fun j => al 244 ((60 * i1).toNat + j)) (ai 242 (i1).toNat) (kof idv (vz i3) 8) t ∧ rtr (ls (pr_ al (60 * i1).toNat) (ai 242 (i1).toNat).toNat) (fun j => al 244 ((60 * i1).toNat + j)) (fun j => al 243 ((60 * i1).toNat + j)) (ai 242 (i1).toNat) (kof idv (vz i3) 8) l_2 q (ai1 242 (i1).toNat) (ls (pr_ al1 (60 * i1).toNat) (ai1 242 (i1).toNat).toNat) t)) ∧ r = some (.int (vz q))))))) ∧ (∀ (vh : vm_H) (sc_ : Nat → Int) (y5 : Int64) (x7 : Int) (x8 : Int) (x9 : Int) (y10 : Int64), (tm sc_ ai al az v0 vh) → (tmok ai) → (gi sc_ ai al az) → (fr [0, 10, 11, 12, 18] [] (i1).toNat (i1).toNat sc ai al az sc_ ai al az) → (x7 = 60 * i1) → (0 ≤ x8 ∧ x8 ≤ ai 242 (i1).toNat) → ((x9 = 1 ∧ x8 < ai 242 (i1).toNat) ∨ (x9 = 0 ∧ x8 = ai 242 (i1).toNat)) → (ri2 sc_ ai al az) → ((sc_ 1 = sc 1 ∧ sc_ 4 = sc 4) ∧ (0 ≤ i1 ∧ i1 < sc 4)) → (y5 = kof idv (vz i3) 8) → (val (sc 1).toNat (vz i3)) → (∀ j : Nat, (j : Int) < x8 → al 244 ((60 * i1).toNat + j) ≠ y5) → ((x9 = 1 ∧ al 244 ((60 * i1).toNat + (x8).toNat) = y5 ∧ y10 = al 243 ((60 * i1).toNat + (x8).toNat)) ∨ x9 = 0) → (-67108864 ≤ y10.toInt ∧ y10.toInt ≤ 67108864 ∧ (x9 = 0 → y10.toInt = 0)) → ((900 : Int).toNat < N) → vm_Wp 3 77 108 157 [some (.ref 238), some (.int (vz i1)), some (.long l_2), none, some (.int (vz i3)), some (.long y5), none, some (.int (vz x7)), some (.int (vz x8)), some (.int (vz x9)), some (.long y10), none, none] [] vh (vq_P 108 (fun r v1 => (∃ (sc1 : Nat → Int) (ai1 : Nat → Nat → Int) (al1 : Nat → Nat → Int64) (az1 : Nat → Nat → Int32), tm sc1 ai1 al1 az1 v0 v1 ∧ tmok ai1 ∧ gi sc1 ai1 al1 az1 ∧ fr [0, 10, 11, 12, 18] [] (i1).toNat (i1).toNat sc ai al az sc1 ai1 al1 az1 ∧ (ri2 sc1 ai1 al1 az1 ∧ ∃ q : Int, ((q = 0 ∧ ai1 = ai ∧ al1 = al ∧ (¬ (0 ≤ i1 ∧ i1 < sc 4) ∨ ¬ val (sc 1).toNat (vz i3))) ∨ ((0 ≤ i1 ∧ i1 < sc 4) ∧ val (sc 1).toNat (vz i3) ∧ ∃ t : Int, fnd (fun j => al 244 ((60 * i1).toNat + j)) (ai 242 (i1).toNat) (kof idv (vz i3) 8) t ∧ rtr (ls (pr_ al (60 * i1).toNat) (ai 242 (i1).toNat).toNat) (fun j => al 244 ((60 * i1).toNat + j)) (fun j => al 243 ((60 * i1).toNat + j)) (ai 242 (i1).toNat) (kof idv (vz i3) 8) l_2 q (ai1 242 (i1).toNat) (ls (pr_ al1 (60 * i1).toNat) (ai1 242 (i1).toNat).toNat) t)) ∧ r = some (.int (vz q))))))) ∧ (∀ (vh : vm_H) (sc_ : Nat → Int) (y5 : Int64) (x7 : Int) (x8 : Int) (x9 : Int) (y10 : Int64), (tm sc_ ai al az v0 vh) → (tmok ai) → (gi sc_ ai al az) → (fr [0, 10, 11, 12, 18] [] (i1).toNat (i1).toNat sc ai al az sc_ ai al az) → (x7 = 60 * i1) → (0 ≤ x8 ∧ x8 ≤ ai 242 (i1).toNat) → ((x9 = 1 ∧ x8 < ai 242 (i1).toNat) ∨ (x9 = 0 ∧ x8 = ai 242 (i1).toNat)) → (ri2 sc_ ai al az) → ((sc_ 1 = sc 1 ∧ sc_ 4 = sc 4) ∧ (0 ≤ i1 ∧ i1 < sc 4)) → (y5 = kof idv (vz i3) 8) → (val (sc 1).toNat (vz i3)) → (∀ j : Nat, (j : Int) < x8 → al 244 ((60 * i1).toNat + j) ≠ y5) → ((x9 = 1 ∧ al 244 ((60 * i1).toNat + (x8).toNat) = y5 ∧ y10 = al 243 ((60 * i1).toNat + (x8).toNat)) ∨ x9 = 0) → (-67108864 ≤ y10.toInt ∧ y10.toInt ≤ 67108864 ∧ (x9 = 0 → y10.toInt = 0)) → (-134217728 ≤ l_2.toInt ∧ l_2.toInt ≤ 134217728 ∧ -67108864 ≤ y10.toInt + l_2.toInt ∧ y10.toInt + l_2.toInt ≤ 67108864) → (x9 = 1 ∨ l_2.toInt = 0 ∨ x8 ≠ 60) → ((800 : Int).toNat < N) → vm_Wp 3 77 108 215 [some (.ref 238), some (.int (vz i1)), some (.long l_2), none, some (.int (vz i3)), some (.long y5), none, some (.int (vz x7)), some (.int (vz x8)), some (.int (vz x9)), some (.long y10), none, none] [] vh (vq_P 108 (fun r v1 => (∃ (sc1 : Nat → Int) (ai1 : Nat → Nat → Int) (al1 : Nat → Nat → Int64) (az1 : Nat → Nat → Int32), tm sc1 ai1 al1 az1 v0 v1 ∧ tmok ai1 ∧ gi sc1 ai1 al1 az1 ∧ fr [0, 10, 11, 12, 18] [] (i1).toNat (i1).toNat sc ai al az sc1 ai1 al1 az1 ∧ (ri2 sc1 ai1 al1 az1 ∧ ∃ q : Int, ((q = 0 ∧ ai1 = ai ∧ al1 = al ∧ (¬ (0 ≤ i1 ∧ i1 < sc 4) ∨ ¬ val (sc 1).toNat (vz i3))) ∨ ((0 ≤ i1 ∧ i1 < sc 4) ∧ val (sc 1).toNat (vz i3) ∧ ∃ t : Int, fnd (fun j => al 244 ((60 * i1).toNat + j)) (ai 242 (i1).toNat) (kof idv (vz i3) 8) t ∧ rtr (ls (pr_ al (60 * i1).toNat) (ai 242 (i1).toNat).toNat) (fun j => al 244 ((60 * i1).toNat + j)) (fun j => al 243 ((60 * i1).toNat + j)) (ai 242 (i1).toNat) (kof idv (vz i3) 8) l_2 q (ai1 242 (i1).toNat) (ls (pr_ al1 (60 * i1).toNat) (ai1 242 (i1).toNat).toNat) t)) ∧ r = some (.int (vz q))))))) ∧ (∀ (vh : vm_H) (sc_ : Nat → Int) (y5 : Int64) (x7 : Int) (x8 : Int) (x9 : Int) (y10 : Int64), (tm sc_ ai al az v0 vh) → (tmok ai) → (gi sc_ ai al az) → (fr [0, 10, 11, 12, 18] [] (i1).toNat (i1).toNat sc ai al az sc_ ai al az) → (x7 = 60 * i1) → (0 ≤ x8 ∧ x8 ≤ ai 242 (i1).toNat) → ((x9 = 1 ∧ x8 < ai 242 (i1).toNat) ∨ (x9 = 0 ∧ x8 = ai 242 (i1).toNat)) → (ri2 sc_ ai al az) → ((sc_ 1 = sc 1 ∧ sc_ 4 = sc 4) ∧ (0 ≤ i1 ∧ i1 < sc 4)) → (y5 = kof idv (vz i3) 8) → (val (sc 1).toNat (vz i3)) → (∀ j : Nat, (j : Int) < x8 → al 244 ((60 * i1).toNat + j) ≠ y5) → ((x9 = 1 ∧ al 244 ((60 * i1).toNat + (x8).toNat) = y5 ∧ y10 = al 243 ((60 * i1).toNat + (x8).toNat)) ∨ x9 = 0) → (-67108864 ≤ y10.toInt ∧ y10.toInt ≤ 67108864 ∧ (x9 = 0 → y10.toInt = 0)) → (-134217728 ≤ l_2.toInt ∧ l_2.toInt ≤ 134217728 ∧ -67108864 ≤ y10.toInt + l_2.toInt ∧ y10.toInt + l_2.toInt ≤ 67108864) → ((x9 = 1 ∨ x8 ≠ 60) ∧ l_2.toInt ≠ 0) → ((700 : Int).toNat < N) → vm_Wp 3 77 108 236 [some (.ref 238), some (.int (vz i1)), some (.long l_2), none, some (.int (vz i3)), some (.long y5), none, some (.int (vz x7)), some (.int (vz x8)), some (.int (vz x9)), some (.long y10), none, none] [] vh (vq_P 108 (fun r v1 => (∃ (sc1 : Nat → Int) (ai1 : Nat → Nat → Int) (al1 : Nat → Nat → Int64) (az1 : Nat → Nat → Int32), tm sc1 ai1 al1 az1 v0 v1 ∧ tmok ai1 ∧ gi sc1 ai1 al1 az1 ∧ fr [0, 10, 11, 12, 18] [] (i1).toNat (i1).toNat sc ai al az sc1 ai1 al1 az1 ∧ (ri2 sc1 ai1 al1 az1 ∧ ∃ q : Int, ((q = 0 ∧ ai1 = ai ∧ al1 = al ∧ (¬ (0 ≤ i1 ∧ i1 < sc 4) ∨ ¬ val (sc 1).toNat (vz i3))) ∨ ((0 ≤ i1 ∧ i1 < sc 4) ∧ val (sc 1).toNat (vz i3) ∧ ∃ t : Int, fnd (fun j => al 244 ((60 * i1).toNat + j)) (ai 242 (i1).toNat) (kof idv (vz i3) 8) t ∧ rtr (ls (pr_ al (60 * i1).toNat) (ai 242 (i1).toNat).toNat) (fun j => al 244 ((60 * i1).toNat + j)) (fun j => al 243 ((60 * i1).toNat + j)) (ai 242 (i1).toNat) (kof idv (vz i3) 8) l_2 q (ai1 242 (i1).toNat) (ls (pr_ al1 (60 * i1).toNat) (ai1 242 (i1).toNat).toNat) t)) ∧ r = some (.int (vz q))))))) ∧ (∀ (vh : vm_H) (sc_ : Nat → Int) (al_ : Nat → Nat → Int64) (x7 : Int) (x8 : Int) (x12 : Int), (tm sc_ ai al_ az v0 vh) → (tmok ai) → (fr [0, 10, 11, 12, 18] [] (i1).toNat (i1).toNat sc ai al az sc_ ai al_ az) → (x7 = 60 * i1) → (0 ≤ x8 ∧ x8 < ai 242 (i1).toNat) → (x8 ≤ x12 ∧ x12 < ai 242 (i1).toNat) → (ri2 sc_ ai al_ az) → (sg al_ (60 * i1).toNat (ai 242 (i1).toNat)) → ((sc_ 1 = sc 1 ∧ sc_ 4 = sc 4) ∧ (0 ≤ i1 ∧ i1 < sc 4)) → (shf al al_ (60 * i1).toNat x8 x12) → (val (sc 1).toNat (vz i3)) → (∀ j : Nat, (j : Int) < x8 → al 244 ((60 * i1).toNat + j) ≠ kof idv (vz i3) 8) → (al 244 ((60 * i1).toNat + (x8).toNat) = kof idv (vz i3) 8) → ((al 243 ((60 * i1).toNat + (x8).toNat) + l_2).toInt = 0 ∧ vr l_2 ∧ sr (al 243 ((60 * i1).toNat + (x8).toNat) + l_2) ∧ l_2.toInt ≠ 0) → ((60 - x12 : Int).toNat < N) → vm_Wp 3 77 108 290 [some (.ref 238), some (.int (vz i1)), some (.long l_2), none, some (.int (vz i3)), none, none, some (.int (vz x7)), some (.int (vz x8)), none, none, none, some (.int (vz x12))] [] vh (vq_P 108 (fun r v1 => (∃ (sc1 : Nat → Int) (ai1 : Nat → Nat → Int) (al1 : Nat → Nat → Int64) (az1 : Nat → Nat → Int32), tm sc1 ai1 al1 az1 v0 v1 ∧ tmok ai1 ∧ gi sc1 ai1 al1 az1 ∧ fr [0, 10, 11, 12, 18] [] (i1).toNat (i1).toNat sc ai al az sc1 ai1 al1 az1 ∧ (ri2 sc1 ai1 al1 az1 ∧ ∃ q : Int, ((q = 0 ∧ ai1 = ai ∧ al1 = al ∧ (¬ (0 ≤ i1 ∧ i1 < sc 4) ∨ ¬ val (sc 1).toNat (vz i3))) ∨ ((0 ≤ i1 ∧ i1 < sc 4) ∧ val (sc 1).toNat (vz i3) ∧ ∃ t : Int, fnd (fun j => al 244 ((60 * i1).toNat + j)) (ai 242 (i1).toNat) (kof idv (vz i3) 8) t ∧ rtr (ls (pr_ al (60 * i1).toNat) (ai 242 (i1).toNat).toNat) (fun j => al 244 ((60 * i1).toNat + j)) (fun j => al 243 ((60 * i1).toNat + j)) (ai 242 (i1).toNat) (kof idv (vz i3) 8) l_2 q (ai1 242 (i1).toNat) (ls (pr_ al1 (60 * i1).toNat) (ai1 242 (i1).toNat).toNat) t)) ∧ r = some (.int (vz q))))))) := by
  have hF0 : fr [0, 10, 11, 12, 18] [] (i1).toNat (i1).toNat sc ai al az sc ai al az := fr_0 _ _ _ _ _ _ _ _
  intro N
  induction N with
  | zero => exact ⟨by intros; omega, by intros; omega, by intros; omega, by intros; omega, by intros; omega, by intros; omega⟩
  | succ N ih =>
    refine ⟨?_, ?_, ?_, ?_, ?_, ?_⟩
    ·
      intro vh sc_ y5 x7 hM hK hJ hF hx7 hi0 hi1 hi2 hi3 hN
      have hn8 := hJ.1.1
      have hcg := hK.1 (i1).toNat
      refine w_ldI e108_21 (fun _ => rfl) rfl ?_
      refine w_kB e108_23 rfl ?_
      refine w_ic e108_25 (by omega) (by omega) (fun (h25 : 8 ≤ x7) => ?_) (fun (h25 : x7 < 8) => ?_)
      ·
        refine w_kB e108_76 rfl ?_
        refine w_ldI e108_78 (fun _ => rfl) rfl ?_
        refine w_imul e108_79 ?_
        refine w_stI (j := 7) (A1 := [some (.ref 238), some (.int (vz i1)), some (.long l_2), none, some (.int (vz i3)), some (.long y5), none, some (.int (vz (60 * i1))), none, none, none, none, none]) e108_80 (fun _ => rfl) (by decide) rfl ?_
        refine w_kI e108_82 ?_
        refine w_stI (j := 8) (A1 := [some (.ref 238), some (.int (vz i1)), some (.long l_2), none, some (.int (vz i3)), some (.long y5), none, some (.int (vz (60 * i1))), some (.int (vz 0)), none, none, none, none]) e108_83 (fun _ => rfl) (by decide) rfl ?_
        exact w_sub (A1 := [some (.ref 238), some (.int (vz i1)), some (.long l_2), none, some (.int (vz i3)), some (.long y5), none, some (.int (vz (60 * i1))), some (.int (vz 0)), none, none, none, none]) (And.intro rfl (And.intro rfl (And.intro rfl (And.intro rfl (And.intro rfl (And.intro rfl (And.intro rfl trivial))))))) ((ih.2.1) vh sc_ y5 (60 * i1) 0 hM hK hJ hF (by omega) (by omega) hi0 (by omega) (by rw [hi2, show x7 = 8 by omega]; rfl) (vlx_v hi3 (by omega)) (fun j hj => by omega) (by omega))
      ·
        refine w_ldI e108_28 (fun _ => rfl) rfl ?_
        refine w_kI e108_30 ?_
        refine w_ldI e108_31 (fun _ => rfl) rfl ?_
        refine w_imul e108_33 ?_
        refine w_x e108_34 (fun _ => rfl) ?_
        refine w_kB e108_35 rfl ?_
        refine w_x e108_37 (fun _ => rfl) ?_
        obtain ⟨qn, hqn, hqr⟩ := vz_ex (nbl (vz i3) x7)
        show vm_Wp _ _ _ 38 _ [.int (nbl (vz i3) x7)] _ _
        rw [hqn]
        have hqb := nbl_bd hqn hqr
        refine w_stI (j := 8) (A1 := [some (.ref 238), some (.int (vz i1)), some (.long l_2), none, some (.int (vz i3)), some (.long y5), none, some (.int (vz x7)), some (.int (vz qn)), none, none, none, none]) e108_38 (fun _ => rfl) (by decide) rfl ?_
        refine w_ldI e108_40 (fun _ => rfl) rfl ?_
        refine w_if e108_42 (by omega) (fun (h26 : qn ≤ 0) => ?_) (fun (h26 : 0 < qn) => ?_)
        ·
          refine w_ldL e108_56 (fun _ => rfl) rfl ?_
          refine w_ldI e108_58 (fun _ => rfl) rfl ?_
          refine w_x e108_60 (fun _ => rfl) ?_
          refine w_kB e108_61 rfl ?_
          refine w_ldI e108_63 (fun _ => rfl) rfl ?_
          refine w_imul e108_65 ?_
          refine w_x e108_66 (fun _ => rfl) ?_
          refine w_x e108_67 (fun _ => rfl) ?_
          refine w_stL (j := 5) (A1 := [some (.ref 238), some (.int (vz i1)), some (.long l_2), none, some (.int (vz i3)), some (.long ((y5 ||| ((vz qn).toInt64 <<< ((vz (8 * x7)).toInt64 &&& 63))))), none, some (.int (vz x7)), some (.int (vz qn)), none, none, none, none]) e108_68 (fun _ => rfl) (by decide) rfl ?_
          refine w_iinc (A1 := [some (.ref 238), some (.int (vz i1)), some (.long l_2), none, some (.int (vz i3)), some (.long ((y5 ||| ((vz qn).toInt64 <<< ((vz (8 * x7)).toInt64 &&& 63))))), none, some (.int (vz (x7 + 1))), some (.int (vz qn)), none, none, none, none]) e108_70 rfl (by decide) rfl ?_
          refine w_x e108_73 (fun _ => rfl) ?_
          exact w_sub (A1 := [some (.ref 238), some (.int (vz i1)), some (.long l_2), none, some (.int (vz i3)), some (.long ((y5 ||| ((vz qn).toInt64 <<< ((vz (8 * x7)).toInt64 &&& 63))))), none, some (.int (vz (x7 + 1))), none, none, none, none, none]) (And.intro rfl (And.intro rfl (And.intro rfl (And.intro rfl (And.intro rfl (And.intro rfl trivial)))))) ((ih.1) vh sc_ ((y5 ||| ((vz qn).toInt64 <<< ((vz (8 * x7)).toInt64 &&& 63)))) (x7 + 1) hM hK hJ hF (by omega) hi0 (by omega) (kofi_s hi2 (by omega) hqn) (vlx_z hi3 (by omega) hqn (by omega)) (by omega))
        ·
          refine w_ldI e108_45 (fun _ => rfl) rfl ?_
          refine w_ldA e108_47 (fun _ => rfl) rfl ?_
          have e27 := tm_o hM
          refine w_get e108_48 e27 rfl ?_
          refine w_ic e108_51 (by omega) (tm_s hM 1) (fun (h28 : x7 < sc_ 1) => ?_) (fun (h28 : sc_ 1 ≤ x7) => ?_)
          ·
            refine w_ldL e108_56 (fun _ => rfl) rfl ?_
            refine w_ldI e108_58 (fun _ => rfl) rfl ?_
            refine w_x e108_60 (fun _ => rfl) ?_
            refine w_kB e108_61 rfl ?_
            refine w_ldI e108_63 (fun _ => rfl) rfl ?_
            refine w_imul e108_65 ?_
            refine w_x e108_66 (fun _ => rfl) ?_
            refine w_x e108_67 (fun _ => rfl) ?_
            refine w_stL (j := 5) (A1 := [some (.ref 238), some (.int (vz i1)), some (.long l_2), none, some (.int (vz i3)), some (.long ((y5 ||| ((vz qn).toInt64 <<< ((vz (8 * x7)).toInt64 &&& 63))))), none, some (.int (vz x7)), some (.int (vz qn)), none, none, none, none]) e108_68 (fun _ => rfl) (by decide) rfl ?_
            refine w_iinc (A1 := [some (.ref 238), some (.int (vz i1)), some (.long l_2), none, some (.int (vz i3)), some (.long ((y5 ||| ((vz qn).toInt64 <<< ((vz (8 * x7)).toInt64 &&& 63))))), none, some (.int (vz (x7 + 1))), some (.int (vz qn)), none, none, none, none]) e108_70 rfl (by decide) rfl ?_
            refine w_x e108_73 (fun _ => rfl) ?_
            exact w_sub (A1 := [some (.ref 238), some (.int (vz i1)), some (.long l_2), none, some (.int (vz i3)), some (.long ((y5 ||| ((vz qn).toInt64 <<< ((vz (8 * x7)).toInt64 &&& 63))))), none, some (.int (vz (x7 + 1))), none, none, none, none, none]) (And.intro rfl (And.intro rfl (And.intro rfl (And.intro rfl (And.intro rfl (And.intro rfl trivial)))))) ((ih.1) vh sc_ ((y5 ||| ((vz qn).toInt64 <<< ((vz (8 * x7)).toInt64 &&& 63)))) (x7 + 1) hM hK hJ hF (by omega) hi0 (by omega) (kofi_s hi2 (by omega) hqn) (vlx_l (by omega) (by omega)) (by omega))
          ·
            refine w_kI e108_54 ?_
            exact w_rz e108_55 rfl (by omega) ⟨sc_, ai, al, az, hM, hK, hJ, hF, hi0, 0, Or.inl ⟨rfl, rfl, rfl, Or.inr (vlx_n (by omega) (by omega) hqn hqr (by omega))⟩, rfl⟩
    ·
      intro vh sc_ y5 x7 x8 hM hK hJ hF hx7 hx8 hi0 hi1 hi2 hi3 hi4 hN
      have hn8 := hJ.1.1
      have hz0 : (Int64.ofNat 0).toInt = 0 := rfl
      have hcg := hK.1 (i1).toNat
      refine w_ldI e108_85 (fun _ => rfl) rfl ?_
      refine w_ldA e108_87 (fun _ => rfl) rfl ?_
      have e29 := tm_o hM
      refine w_get e108_88 e29 rfl ?_
      refine w_ldI e108_91 (fun _ => rfl) rfl ?_
      have e30 := tm_i hM (a := 242) (n := 72) rfl
      refine w_ald e108_92 e30 (by omega) (by omega) (by decide) ?_
      show vm_Wp _ _ _ 93 _ [.int (vz (ai 242 (i1).toNat)), .int (vz x8)] _ _
      have hk31 := hK.1 (i1).toNat
      refine w_ic e108_93 (by omega) (tm_r hM 242 (i1).toNat) (fun (h32 : ai 242 (i1).toNat ≤ x8) => ?_) (fun (h32 : x8 < ai 242 (i1).toNat) => ?_)
      ·
        refine w_ldI e108_118 (fun _ => rfl) rfl ?_
        refine w_ldA e108_120 (fun _ => rfl) rfl ?_
        refine w_get e108_121 e29 rfl ?_
        refine w_ldI e108_124 (fun _ => rfl) rfl ?_
        refine w_ald e108_125 e30 (by omega) (by omega) (by decide) ?_
        show vm_Wp _ _ _ 126 _ [.int (vz (ai 242 (i1).toNat)), .int (vz x8)] _ _
        have hk33 := hK.1 (i1).toNat
        refine w_ic e108_126 (by omega) (tm_r hM 242 (i1).toNat) (fun (h34 : ai 242 (i1).toNat ≤ x8) => ?_) (fun (h34 : x8 < ai 242 (i1).toNat) => ?_)
        ·
          refine w_kI e108_133 ?_
          refine w_stI (j := 9) (A1 := [some (.ref 238), some (.int (vz i1)), some (.long l_2), none, some (.int (vz i3)), some (.long y5), none, some (.int (vz x7)), some (.int (vz x8)), some (.int (vz 0)), none, none, none]) e108_134 (fun _ => rfl) (by decide) rfl ?_
          refine w_ldI e108_136 (fun _ => rfl) rfl ?_
          refine w_if e108_138 (by omega) (fun (h35 : 0 = 0) => ?_) (fun (h35 : 0 ≠ 0) => ?_)
          ·
            refine w_x e108_154 (fun _ => rfl) ?_
            refine w_stL (j := 10) (A1 := [some (.ref 238), some (.int (vz i1)), some (.long l_2), none, some (.int (vz i3)), some (.long y5), none, some (.int (vz x7)), some (.int (vz x8)), some (.int (vz 0)), some (.long ((Int64.ofNat 0))), none, none]) e108_155 (fun _ => rfl) (by decide) rfl ?_
            exact w_sub (A1 := [some (.ref 238), some (.int (vz i1)), some (.long l_2), none, some (.int (vz i3)), some (.long y5), none, some (.int (vz x7)), some (.int (vz x8)), some (.int (vz 0)), some (.long ((Int64.ofNat 0))), none, none]) (And.intro rfl (And.intro rfl (And.intro rfl (And.intro rfl (And.intro rfl (And.intro rfl (And.intro rfl (And.intro rfl (And.intro rfl trivial))))))))) ((ih.2.2.1) vh sc_ y5 x7 x8 0 ((Int64.ofNat 0)) hM hK hJ hF (by omega) (by omega) (by omega) hi0 (by omega) hi2 hi3 hi4 (Or.inr rfl) (by omega) (by omega))
          ·
            refine w_ldA e108_141 (fun _ => rfl) rfl ?_
            refine w_get e108_142 e29 rfl ?_
            refine w_ldI e108_145 (fun _ => rfl) rfl ?_
            refine w_ldI e108_147 (fun _ => rfl) rfl ?_
            refine w_iadd e108_149 ?_
            have e36 := tm_l hM (a := 243) (n := 4320) rfl
            refine w_lld e108_150 e36 (by omega) (by omega) (by decide) ?_
            have hg37 := gd_at2 hJ.1.2 (by omega) hx7 (t := x8) (by omega)
            have ha38 := hg37.1
            have ha39 := hg37.2
            refine w_x e108_151 (fun _ => rfl) ?_
            refine w_stL (j := 10) (A1 := [some (.ref 238), some (.int (vz i1)), some (.long l_2), none, some (.int (vz i3)), some (.long y5), none, some (.int (vz x7)), some (.int (vz x8)), some (.int (vz 0)), some (.long ((al 243 (x7 + x8).toNat))), none, none]) e108_155 (fun _ => rfl) (by decide) rfl ?_
            exact w_sub (A1 := [some (.ref 238), some (.int (vz i1)), some (.long l_2), none, some (.int (vz i3)), some (.long y5), none, some (.int (vz x7)), some (.int (vz x8)), some (.int (vz 0)), some (.long ((al 243 (x7 + x8).toNat))), none, none]) (And.intro rfl (And.intro rfl (And.intro rfl (And.intro rfl (And.intro rfl (And.intro rfl (And.intro rfl (And.intro rfl (And.intro rfl trivial))))))))) ((ih.2.2.1) vh sc_ y5 x7 x8 0 ((al 243 (x7 + x8).toNat)) hM hK hJ hF (by omega) (by omega) (by omega) hi0 (by omega) hi2 hi3 hi4 (Or.inr rfl) (by omega) (by omega))
        ·
          refine w_kI e108_129 ?_
          refine w_x e108_130 (fun _ => rfl) ?_
          refine w_stI (j := 9) (A1 := [some (.ref 238), some (.int (vz i1)), some (.long l_2), none, some (.int (vz i3)), some (.long y5), none, some (.int (vz x7)), some (.int (vz x8)), some (.int (vz 1)), none, none, none]) e108_134 (fun _ => rfl) (by decide) rfl ?_
          refine w_ldI e108_136 (fun _ => rfl) rfl ?_
          refine w_if e108_138 (by omega) (fun (h40 : 1 = 0) => ?_) (fun (h40 : 1 ≠ 0) => ?_)
          ·
            refine w_x e108_154 (fun _ => rfl) ?_
            refine w_stL (j := 10) (A1 := [some (.ref 238), some (.int (vz i1)), some (.long l_2), none, some (.int (vz i3)), some (.long y5), none, some (.int (vz x7)), some (.int (vz x8)), some (.int (vz 1)), some (.long ((Int64.ofNat 0))), none, none]) e108_155 (fun _ => rfl) (by decide) rfl ?_
            exact w_sub (A1 := [some (.ref 238), some (.int (vz i1)), some (.long l_2), none, some (.int (vz i3)), some (.long y5), none, some (.int (vz x7)), some (.int (vz x8)), some (.int (vz 1)), some (.long ((Int64.ofNat 0))), none, none]) (And.intro rfl (And.intro rfl (And.intro rfl (And.intro rfl (And.intro rfl (And.intro rfl (And.intro rfl (And.intro rfl (And.intro rfl trivial))))))))) ((ih.2.2.1) vh sc_ y5 x7 x8 1 ((Int64.ofNat 0)) hM hK hJ hF (by omega) (by omega) (by omega) hi0 (by omega) hi2 hi3 hi4 (by exfalso; omega) (by omega) (by omega))
          ·
            refine w_ldA e108_141 (fun _ => rfl) rfl ?_
            refine w_get e108_142 e29 rfl ?_
            refine w_ldI e108_145 (fun _ => rfl) rfl ?_
            refine w_ldI e108_147 (fun _ => rfl) rfl ?_
            refine w_iadd e108_149 ?_
            have e41 := tm_l hM (a := 243) (n := 4320) rfl
            refine w_lld e108_150 e41 (by omega) (by omega) (by decide) ?_
            have hg42 := gd_at2 hJ.1.2 (by omega) hx7 (t := x8) (by omega)
            have ha43 := hg42.1
            have ha44 := hg42.2
            refine w_x e108_151 (fun _ => rfl) ?_
            refine w_stL (j := 10) (A1 := [some (.ref 238), some (.int (vz i1)), some (.long l_2), none, some (.int (vz i3)), some (.long y5), none, some (.int (vz x7)), some (.int (vz x8)), some (.int (vz 1)), some (.long ((al 243 (x7 + x8).toNat))), none, none]) e108_155 (fun _ => rfl) (by decide) rfl ?_
            exact w_sub (A1 := [some (.ref 238), some (.int (vz i1)), some (.long l_2), none, some (.int (vz i3)), some (.long y5), none, some (.int (vz x7)), some (.int (vz x8)), some (.int (vz 1)), some (.long ((al 243 (x7 + x8).toNat))), none, none]) (And.intro rfl (And.intro rfl (And.intro rfl (And.intro rfl (And.intro rfl (And.intro rfl (And.intro rfl (And.intro rfl (And.intro rfl trivial))))))))) ((ih.2.2.1) vh sc_ y5 x7 x8 1 ((al 243 (x7 + x8).toNat)) hM hK hJ hF (by omega) (by omega) (by omega) hi0 (by omega) hi2 hi3 hi4 (by exfalso; omega) (by omega) (by omega))
      ·
        refine w_ldA e108_96 (fun _ => rfl) rfl ?_
        refine w_get e108_97 e29 rfl ?_
        refine w_ldI e108_100 (fun _ => rfl) rfl ?_
        refine w_ldI e108_102 (fun _ => rfl) rfl ?_
        refine w_iadd e108_104 ?_
        have e45 := tm_l hM (a := 244) (n := 4320) rfl
        refine w_lld e108_105 e45 (by omega) (by omega) (by decide) ?_
        refine w_ldL e108_106 (fun _ => rfl) rfl ?_
        refine w_lcmp e108_108 (fun q46 (h47 : -1 ≤ q46 ∧ q46 ≤ 1) h48 h49 => ?_)
        have hc50 : (q46 = 0 ↔ ((al 244 (x7 + x8).toNat)).toInt = y5.toInt) ∧ (q46 < 0 ↔ ((al 244 (x7 + x8).toNat)).toInt < y5.toInt) := lc_i h48 h49
        refine w_if e108_109 (by omega) (fun (h51 : q46 = 0) => ?_) (fun (h51 : q46 ≠ 0) => ?_)
        ·
          refine w_ldI e108_118 (fun _ => rfl) rfl ?_
          refine w_ldA e108_120 (fun _ => rfl) rfl ?_
          refine w_get e108_121 e29 rfl ?_
          refine w_ldI e108_124 (fun _ => rfl) rfl ?_
          refine w_ald e108_125 e30 (by omega) (by omega) (by decide) ?_
          show vm_Wp _ _ _ 126 _ [.int (vz (ai 242 (i1).toNat)), .int (vz x8)] _ _
          have hk52 := hK.1 (i1).toNat
          refine w_ic e108_126 (by omega) (tm_r hM 242 (i1).toNat) (fun (h53 : ai 242 (i1).toNat ≤ x8) => ?_) (fun (h53 : x8 < ai 242 (i1).toNat) => ?_)
          ·
            refine w_kI e108_133 ?_
            refine w_stI (j := 9) (A1 := [some (.ref 238), some (.int (vz i1)), some (.long l_2), none, some (.int (vz i3)), some (.long y5), none, some (.int (vz x7)), some (.int (vz x8)), some (.int (vz 0)), none, none, none]) e108_134 (fun _ => rfl) (by decide) rfl ?_
            refine w_ldI e108_136 (fun _ => rfl) rfl ?_
            refine w_if e108_138 (by omega) (fun (h54 : 0 = 0) => ?_) (fun (h54 : 0 ≠ 0) => ?_)
            ·
              refine w_x e108_154 (fun _ => rfl) ?_
              refine w_stL (j := 10) (A1 := [some (.ref 238), some (.int (vz i1)), some (.long l_2), none, some (.int (vz i3)), some (.long y5), none, some (.int (vz x7)), some (.int (vz x8)), some (.int (vz 0)), some (.long ((Int64.ofNat 0))), none, none]) e108_155 (fun _ => rfl) (by decide) rfl ?_
              exact w_sub (A1 := [some (.ref 238), some (.int (vz i1)), some (.long l_2), none, some (.int (vz i3)), some (.long y5), none, some (.int (vz x7)), some (.int (vz x8)), some (.int (vz 0)), some (.long ((Int64.ofNat 0))), none, none]) (And.intro rfl (And.intro rfl (And.intro rfl (And.intro rfl (And.intro rfl (And.intro rfl (And.intro rfl (And.intro rfl (And.intro rfl trivial))))))))) ((ih.2.2.1) vh sc_ y5 x7 x8 0 ((Int64.ofNat 0)) hM hK hJ hF (by omega) (by omega) (by omega) hi0 (by omega) hi2 hi3 hi4 (Or.inr rfl) (by omega) (by omega))
            ·
              refine w_ldA e108_141 (fun _ => rfl) rfl ?_
              refine w_get e108_142 e29 rfl ?_
              refine w_ldI e108_145 (fun _ => rfl) rfl ?_
              refine w_ldI e108_147 (fun _ => rfl) rfl ?_
              refine w_iadd e108_149 ?_
              have e55 := tm_l hM (a := 243) (n := 4320) rfl
              refine w_lld e108_150 e55 (by omega) (by omega) (by decide) ?_
              have hg56 := gd_at2 hJ.1.2 (by omega) hx7 (t := x8) (by omega)
              have ha57 := hg56.1
              have ha58 := hg56.2
              refine w_x e108_151 (fun _ => rfl) ?_
              refine w_stL (j := 10) (A1 := [some (.ref 238), some (.int (vz i1)), some (.long l_2), none, some (.int (vz i3)), some (.long y5), none, some (.int (vz x7)), some (.int (vz x8)), some (.int (vz 0)), some (.long ((al 243 (x7 + x8).toNat))), none, none]) e108_155 (fun _ => rfl) (by decide) rfl ?_
              exact w_sub (A1 := [some (.ref 238), some (.int (vz i1)), some (.long l_2), none, some (.int (vz i3)), some (.long y5), none, some (.int (vz x7)), some (.int (vz x8)), some (.int (vz 0)), some (.long ((al 243 (x7 + x8).toNat))), none, none]) (And.intro rfl (And.intro rfl (And.intro rfl (And.intro rfl (And.intro rfl (And.intro rfl (And.intro rfl (And.intro rfl (And.intro rfl trivial))))))))) ((ih.2.2.1) vh sc_ y5 x7 x8 0 ((al 243 (x7 + x8).toNat)) hM hK hJ hF (by omega) (by omega) (by omega) hi0 (by omega) hi2 hi3 hi4 (Or.inr rfl) (by omega) (by omega))
          ·
            refine w_kI e108_129 ?_
            refine w_x e108_130 (fun _ => rfl) ?_
            refine w_stI (j := 9) (A1 := [some (.ref 238), some (.int (vz i1)), some (.long l_2), none, some (.int (vz i3)), some (.long y5), none, some (.int (vz x7)), some (.int (vz x8)), some (.int (vz 1)), none, none, none]) e108_134 (fun _ => rfl) (by decide) rfl ?_
            refine w_ldI e108_136 (fun _ => rfl) rfl ?_
            refine w_if e108_138 (by omega) (fun (h59 : 1 = 0) => ?_) (fun (h59 : 1 ≠ 0) => ?_)
            ·
              refine w_x e108_154 (fun _ => rfl) ?_
              refine w_stL (j := 10) (A1 := [some (.ref 238), some (.int (vz i1)), some (.long l_2), none, some (.int (vz i3)), some (.long y5), none, some (.int (vz x7)), some (.int (vz x8)), some (.int (vz 1)), some (.long ((Int64.ofNat 0))), none, none]) e108_155 (fun _ => rfl) (by decide) rfl ?_
              exact w_sub (A1 := [some (.ref 238), some (.int (vz i1)), some (.long l_2), none, some (.int (vz i3)), some (.long y5), none, some (.int (vz x7)), some (.int (vz x8)), some (.int (vz 1)), some (.long ((Int64.ofNat 0))), none, none]) (And.intro rfl (And.intro rfl (And.intro rfl (And.intro rfl (And.intro rfl (And.intro rfl (And.intro rfl (And.intro rfl (And.intro rfl trivial))))))))) ((ih.2.2.1) vh sc_ y5 x7 x8 1 ((Int64.ofNat 0)) hM hK hJ hF (by omega) (by omega) (by omega) hi0 (by omega) hi2 hi3 hi4 (by exfalso; omega) (by omega) (by omega))
            ·
              refine w_ldA e108_141 (fun _ => rfl) rfl ?_
              refine w_get e108_142 e29 rfl ?_
              refine w_ldI e108_145 (fun _ => rfl) rfl ?_
              refine w_ldI e108_147 (fun _ => rfl) rfl ?_
              refine w_iadd e108_149 ?_
              have e60 := tm_l hM (a := 243) (n := 4320) rfl
              refine w_lld e108_150 e60 (by omega) (by omega) (by decide) ?_
              have hg61 := gd_at2 hJ.1.2 (by omega) hx7 (t := x8) (by omega)
              have ha62 := hg61.1
              have ha63 := hg61.2
              refine w_x e108_151 (fun _ => rfl) ?_
              refine w_stL (j := 10) (A1 := [some (.ref 238), some (.int (vz i1)), some (.long l_2), none, some (.int (vz i3)), some (.long y5), none, some (.int (vz x7)), some (.int (vz x8)), some (.int (vz 1)), some (.long ((al 243 (x7 + x8).toNat))), none, none]) e108_155 (fun _ => rfl) (by decide) rfl ?_
              exact w_sub (A1 := [some (.ref 238), some (.int (vz i1)), some (.long l_2), none, some (.int (vz i3)), some (.long y5), none, some (.int (vz x7)), some (.int (vz x8)), some (.int (vz 1)), some (.long ((al 243 (x7 + x8).toNat))), none, none]) (And.intro rfl (And.intro rfl (And.intro rfl (And.intro rfl (And.intro rfl (And.intro rfl (And.intro rfl (And.intro rfl (And.intro rfl trivial))))))))) ((ih.2.2.1) vh sc_ y5 x7 x8 1 ((al 243 (x7 + x8).toNat)) hM hK hJ hF (by omega) (by omega) (by omega) hi0 (by omega) hi2 hi3 hi4 (Or.inl ⟨rfl, (by rw [show (60 * i1).toNat + (x8).toNat = (x7 + x8).toNat by omega]; exact (h48.mp h51)), congrArg (al 243) (by omega)⟩) (by omega) (by omega))
        ·
          refine w_iinc (A1 := [some (.ref 238), some (.int (vz i1)), some (.long l_2), none, some (.int (vz i3)), some (.long y5), none, some (.int (vz x7)), some (.int (vz (x8 + 1))), none, none, none, none]) e108_112 rfl (by decide) rfl ?_
          refine w_x e108_115 (fun _ => rfl) ?_
          exact w_sub (A1 := [some (.ref 238), some (.int (vz i1)), some (.long l_2), none, some (.int (vz i3)), some (.long y5), none, some (.int (vz x7)), some (.int (vz (x8 + 1))), none, none, none, none]) (And.intro rfl (And.intro rfl (And.intro rfl (And.intro rfl (And.intro rfl (And.intro rfl (And.intro rfl trivial))))))) ((ih.2.1) vh sc_ y5 x7 (x8 + 1) hM hK hJ hF (by omega) (by omega) hi0 (by omega) hi2 hi3 (fun j hj => by by_cases h9 : (j : Int) < x8; exact hi4 j h9; rw [show (60 * i1).toNat + j = (x7 + x8).toNat by omega]; exact (fun e9 => h51 (h48.mpr e9))) (by omega))
    ·
      intro vh sc_ y5 x7 x8 x9 y10 hM hK hJ hF hx7 hx8 hx9 hi0 hi1 hi2 hi3 hi4 hi5 hi6 hN
      have hn8 := hJ.1.1
      have hz0 : (Int64.ofNat 0).toInt = 0 := rfl
      have hcg := hK.1 (i1).toNat
      refine w_ldL e108_157 (fun _ => rfl) rfl ?_
      refine w_x e108_158 (fun _ => rfl) ?_
      refine w_lcmp e108_161 (fun q64 (h65 : -1 ≤ q64 ∧ q64 ≤ 1) h66 h67 => ?_)
      have hc68 : (q64 = 0 ↔ l_2.toInt = ((Int64.ofNat 18446744073575333888)).toInt) ∧ (q64 < 0 ↔ l_2.toInt < ((Int64.ofNat 18446744073575333888)).toInt) := lc_i h66 h67
      have hc69 : (Int64.ofNat 18446744073575333888).toInt = -134217728 := rfl
      refine w_if e108_162 (by omega) (fun (h70 : q64 < 0) => ?_) (fun (h70 : 0 ≤ q64) => ?_)
      ·
        refine w_kI e108_213 ?_
        exact w_rz e108_214 rfl (by omega) ⟨sc_, ai, al, az, hM, hK, hJ, hF, hi0, 0, Or.inr ⟨by omega, hi3, x8, ⟨by omega, (fun j hj => by rw [← hi2]; exact hi4 j hj), (fun h9 => by rcases hi5 with z | z; rw [← hi2]; exact z.2.1; exfalso; omega)⟩, Or.inl ⟨rfl, rfl, rfl, bad0 (C := fun j => al 243 ((60 * i1).toNat + j)) hx9 (hi5.imp (fun z => ⟨z.1, z.2.2⟩) id) (by omega) (fun h9 => l_add (by omega) h9) (by unfold vr sr; omega)⟩⟩, rfl⟩
      ·
        refine w_ldL e108_165 (fun _ => rfl) rfl ?_
        refine w_x e108_166 (fun _ => rfl) ?_
        refine w_lcmp e108_169 (fun q71 (h72 : -1 ≤ q71 ∧ q71 ≤ 1) h73 h74 => ?_)
        have hc75 : (q71 = 0 ↔ l_2.toInt = ((Int64.ofNat 134217728)).toInt) ∧ (q71 < 0 ↔ l_2.toInt < ((Int64.ofNat 134217728)).toInt) := lc_i h73 h74
        have hc76 : (Int64.ofNat 134217728).toInt = 134217728 := rfl
        refine w_if e108_170 (by omega) (fun (h77 : 0 < q71) => ?_) (fun (h77 : q71 ≤ 0) => ?_)
        ·
          refine w_kI e108_213 ?_
          exact w_rz e108_214 rfl (by omega) ⟨sc_, ai, al, az, hM, hK, hJ, hF, hi0, 0, Or.inr ⟨by omega, hi3, x8, ⟨by omega, (fun j hj => by rw [← hi2]; exact hi4 j hj), (fun h9 => by rcases hi5 with z | z; rw [← hi2]; exact z.2.1; exfalso; omega)⟩, Or.inl ⟨rfl, rfl, rfl, bad0 (C := fun j => al 243 ((60 * i1).toNat + j)) hx9 (hi5.imp (fun z => ⟨z.1, z.2.2⟩) id) (by omega) (fun h9 => l_add (by omega) h9) (by unfold vr sr; omega)⟩⟩, rfl⟩
        ·
          refine w_ldL e108_173 (fun _ => rfl) rfl ?_
          refine w_ldL e108_175 (fun _ => rfl) rfl ?_
          refine w_x e108_176 (fun _ => rfl) ?_
          have hl78 := l_add (x := y10) (y := l_2) (by omega) (by omega)
          refine w_x e108_177 (fun _ => rfl) ?_
          refine w_lcmp e108_180 (fun q79 (h80 : -1 ≤ q79 ∧ q79 ≤ 1) h81 h82 => ?_)
          have hc83 : (q79 = 0 ↔ ((y10 + l_2)).toInt = ((Int64.ofNat 18446744073642442752)).toInt) ∧ (q79 < 0 ↔ ((y10 + l_2)).toInt < ((Int64.ofNat 18446744073642442752)).toInt) := lc_i h81 h82
          have hc84 : (Int64.ofNat 18446744073642442752).toInt = -67108864 := rfl
          refine w_if e108_181 (by omega) (fun (h85 : q79 < 0) => ?_) (fun (h85 : 0 ≤ q79) => ?_)
          ·
            refine w_kI e108_213 ?_
            exact w_rz e108_214 rfl (by omega) ⟨sc_, ai, al, az, hM, hK, hJ, hF, hi0, 0, Or.inr ⟨by omega, hi3, x8, ⟨by omega, (fun j hj => by rw [← hi2]; exact hi4 j hj), (fun h9 => by rcases hi5 with z | z; rw [← hi2]; exact z.2.1; exfalso; omega)⟩, Or.inl ⟨rfl, rfl, rfl, bad0 (C := fun j => al 243 ((60 * i1).toNat + j)) hx9 (hi5.imp (fun z => ⟨z.1, z.2.2⟩) id) (by omega) (fun h9 => l_add (by omega) h9) (by unfold vr sr; omega)⟩⟩, rfl⟩
          ·
            refine w_ldL e108_184 (fun _ => rfl) rfl ?_
            refine w_ldL e108_186 (fun _ => rfl) rfl ?_
            refine w_x e108_187 (fun _ => rfl) ?_
            have hl86 := l_add (x := y10) (y := l_2) (by omega) (by omega)
            refine w_x e108_188 (fun _ => rfl) ?_
            refine w_lcmp e108_191 (fun q87 (h88 : -1 ≤ q87 ∧ q87 ≤ 1) h89 h90 => ?_)
            have hc91 : (q87 = 0 ↔ ((y10 + l_2)).toInt = ((Int64.ofNat 67108864)).toInt) ∧ (q87 < 0 ↔ ((y10 + l_2)).toInt < ((Int64.ofNat 67108864)).toInt) := lc_i h89 h90
            have hc92 : (Int64.ofNat 67108864).toInt = 67108864 := rfl
            refine w_if e108_192 (by omega) (fun (h93 : 0 < q87) => ?_) (fun (h93 : q87 ≤ 0) => ?_)
            ·
              refine w_kI e108_213 ?_
              exact w_rz e108_214 rfl (by omega) ⟨sc_, ai, al, az, hM, hK, hJ, hF, hi0, 0, Or.inr ⟨by omega, hi3, x8, ⟨by omega, (fun j hj => by rw [← hi2]; exact hi4 j hj), (fun h9 => by rcases hi5 with z | z; rw [← hi2]; exact z.2.1; exfalso; omega)⟩, Or.inl ⟨rfl, rfl, rfl, bad0 (C := fun j => al 243 ((60 * i1).toNat + j)) hx9 (hi5.imp (fun z => ⟨z.1, z.2.2⟩) id) (by omega) (fun h9 => l_add (by omega) h9) (by unfold vr sr; omega)⟩⟩, rfl⟩
            ·
              refine w_ldI e108_195 (fun _ => rfl) rfl ?_
              refine w_if e108_197 (by omega) (fun (h94 : x9 ≠ 0) => ?_) (fun (h94 : x9 = 0) => ?_)
              ·
                exact w_sub (A1 := [some (.ref 238), some (.int (vz i1)), some (.long l_2), none, some (.int (vz i3)), some (.long y5), none, some (.int (vz x7)), some (.int (vz x8)), some (.int (vz x9)), some (.long y10), none, none]) (And.intro rfl (And.intro rfl (And.intro rfl (And.intro rfl (And.intro rfl (And.intro rfl (And.intro rfl (And.intro rfl (And.intro rfl trivial))))))))) ((ih.2.2.2.1) vh sc_ y5 x7 x8 x9 y10 hM hK hJ hF (by omega) (by omega) (by omega) hi0 (by omega) hi2 hi3 hi4 hi5 (by omega) (by omega) (by omega) (by omega))
              ·
                refine w_ldL e108_200 (fun _ => rfl) rfl ?_
                refine w_x e108_201 (fun _ => rfl) ?_
                refine w_lcmp e108_202 (fun q95 (h96 : -1 ≤ q95 ∧ q95 ≤ 1) h97 h98 => ?_)
                have hc99 : (q95 = 0 ↔ l_2.toInt = ((Int64.ofNat 0)).toInt) ∧ (q95 < 0 ↔ l_2.toInt < ((Int64.ofNat 0)).toInt) := lc_i h97 h98
                have hc100 : (Int64.ofNat 0).toInt = 0 := rfl
                refine w_if e108_203 (by omega) (fun (h101 : q95 = 0) => ?_) (fun (h101 : q95 ≠ 0) => ?_)
                ·
                  exact w_sub (A1 := [some (.ref 238), some (.int (vz i1)), some (.long l_2), none, some (.int (vz i3)), some (.long y5), none, some (.int (vz x7)), some (.int (vz x8)), some (.int (vz x9)), some (.long y10), none, none]) (And.intro rfl (And.intro rfl (And.intro rfl (And.intro rfl (And.intro rfl (And.intro rfl (And.intro rfl (And.intro rfl (And.intro rfl trivial))))))))) ((ih.2.2.2.1) vh sc_ y5 x7 x8 x9 y10 hM hK hJ hF (by omega) (by omega) (by omega) hi0 (by omega) hi2 hi3 hi4 hi5 (by omega) (by omega) (by omega) (by omega))
                ·
                  refine w_ldI e108_206 (fun _ => rfl) rfl ?_
                  refine w_kB e108_208 rfl ?_
                  refine w_ic e108_210 (by omega) (by omega) (fun (h102 : x8 ≠ 60) => ?_) (fun (h102 : x8 = 60) => ?_)
                  ·
                    exact w_sub (A1 := [some (.ref 238), some (.int (vz i1)), some (.long l_2), none, some (.int (vz i3)), some (.long y5), none, some (.int (vz x7)), some (.int (vz x8)), some (.int (vz x9)), some (.long y10), none, none]) (And.intro rfl (And.intro rfl (And.intro rfl (And.intro rfl (And.intro rfl (And.intro rfl (And.intro rfl (And.intro rfl (And.intro rfl trivial))))))))) ((ih.2.2.2.1) vh sc_ y5 x7 x8 x9 y10 hM hK hJ hF (by omega) (by omega) (by omega) hi0 (by omega) hi2 hi3 hi4 hi5 (by omega) (by omega) (by omega) (by omega))
                  ·
                    refine w_kI e108_213 ?_
                    exact w_rz e108_214 rfl (by omega) ⟨sc_, ai, al, az, hM, hK, hJ, hF, hi0, 0, Or.inr ⟨by omega, hi3, x8, ⟨by omega, (fun j hj => by rw [← hi2]; exact hi4 j hj), (fun h9 => by rcases hi5 with z | z; rw [← hi2]; exact z.2.1; exfalso; omega)⟩, Or.inl ⟨rfl, rfl, rfl, bad0 (C := fun j => al 243 ((60 * i1).toNat + j)) hx9 (hi5.imp (fun z => ⟨z.1, z.2.2⟩) id) (by omega) (fun h9 => l_add (by omega) h9) (by unfold vr sr; omega)⟩⟩, rfl⟩
    ·
      intro vh sc_ y5 x7 x8 x9 y10 hM hK hJ hF hx7 hx8 hx9 hi0 hi1 hi2 hi3 hi4 hi5 hi6 hi7 hi8 hN
      have hn8 := hJ.1.1
      have hz0 : (Int64.ofNat 0).toInt = 0 := rfl
      have hcg := hK.1 (i1).toNat
      refine w_ldL e108_215 (fun _ => rfl) rfl ?_
      refine w_x e108_216 (fun _ => rfl) ?_
      refine w_lcmp e108_217 (fun q103 (h104 : -1 ≤ q103 ∧ q103 ≤ 1) h105 h106 => ?_)
      have hc107 : (q103 = 0 ↔ l_2.toInt = ((Int64.ofNat 0)).toInt) ∧ (q103 < 0 ↔ l_2.toInt < ((Int64.ofNat 0)).toInt) := lc_i h105 h106
      have hc108 : (Int64.ofNat 0).toInt = 0 := rfl
      refine w_if e108_218 (by omega) (fun (h109 : q103 ≠ 0) => ?_) (fun (h109 : q103 = 0) => ?_)
      ·
        refine w_ldA e108_223 (fun _ => rfl) rfl ?_
        have e110 := tm_o hM
        refine w_get e108_224 e110 rfl ?_
        refine w_ldI e108_227 (fun _ => rfl) rfl ?_
        have e111 := tm_z hM (a := 241) (n := 16) rfl
        refine w_zldO e108_228 e111 (by omega) (by omega) (by decide) (fun q112 h113 h114 => ?_)
        refine w_if e108_229 h113 (fun (h115 : q112 = 0) => ?_) (fun (h115 : q112 ≠ 0) => ?_)
        ·
          exact w_sub (A1 := [some (.ref 238), some (.int (vz i1)), some (.long l_2), none, some (.int (vz i3)), some (.long y5), none, some (.int (vz x7)), some (.int (vz x8)), some (.int (vz x9)), some (.long y10), none, none]) (And.intro rfl (And.intro rfl (And.intro rfl (And.intro rfl (And.intro rfl (And.intro rfl (And.intro rfl (And.intro rfl (And.intro rfl trivial))))))))) ((ih.2.2.2.2.1) vh sc_ y5 x7 x8 x9 y10 hM hK hJ hF (by omega) (by omega) (by omega) hi0 (by omega) hi2 hi3 hi4 hi5 (by omega) (by omega) (by omega) (by omega))
        ·
          refine w_ldA e108_232 (fun _ => rfl) rfl ?_
          refine w_cv e108_233 (by decide) rfl e110 rfl (Nat.le_of_ble_eq_true rfl) (Nat.le_of_ble_eq_true rfl) (Nat.le_of_ble_eq_true rfl) (by decide) (by decide) (k101 hM hK hJ) (fun o116 v117 hq118 => ?_)
          obtain ⟨⟨sc119, hM123, hI125, hG126, hE127⟩, rfl⟩ := hq118
          have hs128 : sc119 0 = sc_ 0 := hG126.1 0 rfl
          have hs129 : sc119 1 = sc_ 1 := hG126.1 1 rfl
          have hs130 : sc119 4 = sc_ 4 := hG126.1 4 rfl
          have hs131 : sc119 38 = sc_ 38 := hG126.1 38 rfl
          have hF132 : fr [0, 10, 11, 12, 18] [] (i1).toNat (i1).toNat sc ai al az sc119 ai al az := fr_t hF hG126 rfl rfl (by omega)
          have hS133 := sjk_fr hi0.1 hK hG126 rfl rfl
          have hf134 := hE127.1
          have hf135 := hE127.2
          have hR136 : ri2 sc119 ai al az := ri2_0 hS133 (by omega) (by omega)
          exact w_sub (A1 := [some (.ref 238), some (.int (vz i1)), some (.long l_2), none, some (.int (vz i3)), some (.long y5), none, some (.int (vz x7)), some (.int (vz x8)), some (.int (vz x9)), some (.long y10), none, none]) (And.intro rfl (And.intro rfl (And.intro rfl (And.intro rfl (And.intro rfl (And.intro rfl (And.intro rfl (And.intro rfl (And.intro rfl trivial))))))))) ((ih.2.2.2.2.1) v117 sc119 y5 x7 x8 x9 y10 hM123 hK hI125 hF132 (by omega) (by omega) (by omega) hR136 (by omega) hi2 hi3 hi4 hi5 (by omega) (by omega) (by omega) (by omega))
      ·
        refine w_kI e108_221 ?_
        exact w_rz e108_222 rfl (by omega) ⟨sc_, ai, al, az, hM, hK, hJ, hF, hi0, 1, Or.inr ⟨by omega, hi3, x8, ⟨by omega, (fun j hj => by rw [← hi2]; exact hi4 j hj), (fun h9 => by rcases hi5 with z | z; rw [← hi2]; exact z.2.1; exfalso; omega)⟩, Or.inr (Or.inl ⟨rfl, by omega, rfl, rfl⟩)⟩, rfl⟩
    ·
      intro vh sc_ y5 x7 x8 x9 y10 hM hK hJ hF hx7 hx8 hx9 hi0 hi1 hi2 hi3 hi4 hi5 hi6 hi7 hi8 hN
      have hn8 := hJ.1.1
      have hz0 : (Int64.ofNat 0).toInt = 0 := rfl
      have hcg := hK.1 (i1).toNat
      refine w_ldI e108_236 (fun _ => rfl) rfl ?_
      refine w_if e108_238 (by omega) (fun (h137 : x9 ≠ 0) => ?_) (fun (h137 : x9 = 0) => ?_)
      ·
        refine w_ldL e108_277 (fun _ => rfl) rfl ?_
        refine w_ldL e108_279 (fun _ => rfl) rfl ?_
        refine w_x e108_280 (fun _ => rfl) ?_
        have hl138 := l_add (x := y10) (y := l_2) (by omega) (by omega)
        refine w_x e108_281 (fun _ => rfl) ?_
        refine w_lcmp e108_282 (fun q139 (h140 : -1 ≤ q139 ∧ q139 ≤ 1) h141 h142 => ?_)
        have hc143 : (q139 = 0 ↔ ((y10 + l_2)).toInt = ((Int64.ofNat 0)).toInt) ∧ (q139 < 0 ↔ ((y10 + l_2)).toInt < ((Int64.ofNat 0)).toInt) := lc_i h141 h142
        have hc144 : (Int64.ofNat 0).toInt = 0 := rfl
        refine w_if e108_283 (by omega) (fun (h145 : q139 ≠ 0) => ?_) (fun (h145 : q139 = 0) => ?_)
        ·
          refine w_ldA e108_366 (fun _ => rfl) rfl ?_
          have e146 := tm_o hM
          refine w_get e108_367 e146 rfl ?_
          refine w_ldI e108_370 (fun _ => rfl) rfl ?_
          refine w_ldI e108_372 (fun _ => rfl) rfl ?_
          refine w_iadd e108_374 ?_
          refine w_ldL e108_375 (fun _ => rfl) rfl ?_
          refine w_ldL e108_377 (fun _ => rfl) rfl ?_
          refine w_x e108_378 (fun _ => rfl) ?_
          have hl147 := l_add (x := y10) (y := l_2) (by omega) (by omega)
          have e148 := tm_l hM (a := 243) (n := 4320) rfl
          refine w_lst e108_379 e148 (by omega) (by omega) (by decide) (fun v151 b149 h150 => ?_)
          obtain ⟨al152, hd154, hM153⟩ : ∃ z, z = u2 al 243 (x7 + x8).toNat ((y10 + l_2)) ∧ tm sc_ ai z az v0 v151 := ⟨_, rfl, tm_pl hM rfl b149 h150⟩
          have hF155 : fr [0, 10, 11, 12, 18] [] (i1).toNat (i1).toNat sc ai al az sc_ ai al152 az := fr_k hF hd154 (by decide) (by omega)
          have hR156 := ri2_fr hi0 hK (fr_k (X := []) (Y := []) (lo := (i1).toNat) (hi := (i1).toNat) (fr_0 _ _ _ _ sc_ ai al az) hd154 (by decide) (by omega)) rfl rfl rfl rfl rfl rfl rfl rfl rfl (by omega)
          have hS157 := sjk_fr hi0.1 hK (fr_k (X := []) (Y := []) (lo := (i1).toNat) (hi := (i1).toNat) (fr_0 _ _ _ _ sc_ ai al az) hd154 (by decide) (by omega)) rfl rfl
          have hyc9 : y10 = al 243 ((60 * i1).toNat + (x8).toNat) := by rcases hi5 with z | z; exact z.2.2; exfalso; omega
          have hsr9 : sr (al 243 ((60 * i1).toNat + (x8).toNat) + l_2) := by rw [← hyc9]; unfold sr; omega
          have hnz9 : (al 243 ((60 * i1).toNat + (x8).toNat) + l_2).toInt ≠ 0 := by rw [← hyc9]; omega
          have hsg158 := sg_w (sg_gd (s := i1) hJ.1.2 (by omega) rfl) (show gl ((y10 + l_2)) from ⟨by omega, by omega, by omega⟩) hd154
          have hI159 : gi sc_ ai al152 az := gi_new hI (s := i1) (by omega) hF155 (hF155.1 1 rfl) (hF155.1 4 rfl) (hF155.1 38 rfl) rfl hK (fun t ht => hsg158 t (by omega))
          refine w_ldA e108_380 (fun _ => rfl) rfl ?_
          refine w_ldI e108_381 (fun _ => rfl) rfl ?_
          have e160 := tm_o hM153
          refine w_cv e108_382 (by decide) rfl e160 rfl (Nat.le_of_ble_eq_true rfl) (Nat.le_of_ble_eq_true rfl) (Nat.le_of_ble_eq_true rfl) (by decide) (by decide) (k80x hM153 hK hI159 (by omega)) (fun o161 v162 hq163 => ?_)
          obtain ⟨⟨sc164, ai165, al166, az167, hM168, hK169, hI170, hG171, hE172⟩, rfl⟩ := hq163
          have hs173 : sc164 0 = sc_ 0 := hG171.1 0 rfl
          have hs174 : sc164 1 = sc_ 1 := hG171.1 1 rfl
          have hs175 : sc164 4 = sc_ 4 := hG171.1 4 rfl
          have hs176 : sc164 11 = sc_ 11 := hG171.1 11 rfl
          have hs177 : sc164 18 = sc_ 18 := hG171.1 18 rfl
          have hs178 : sc164 38 = sc_ 38 := hG171.1 38 rfl
          have hF179 : fr [0, 10, 11, 12, 18] [] (i1).toNat (i1).toNat sc ai al az sc164 ai165 al166 az167 := fr_t hF155 hG171 rfl rfl (by omega)
          have hR180 := ri2_fr hR156 hK hG171 rfl rfl rfl rfl rfl rfl rfl rfl rfl (by omega)
          have hS181 := sjk_fr hS157 hK hG171 rfl rfl
          refine w_kI e108_385 ?_
          exact w_rz e108_386 rfl (by omega) ⟨sc164, ai165, al166, az167, hM168, hK169, hI170, hF179, hR180, 1, Or.inr ⟨by omega, hi3, x8, ⟨by omega, (fun j hj => by rw [← hi2]; exact hi4 j hj), (fun h9 => by rcases hi5 with z | z; rw [← hi2]; exact z.2.1; exfalso; omega)⟩, Or.inr (Or.inr (Or.inr (Or.inr ⟨rfl, by omega, by unfold vr; omega, by omega, hsr9, hnz9, (by rw [hE172.1]), (by rw [hE172.1]; exact upd_f ⟨by omega, hx7⟩ (by omega) (by rcases hi5 with z | z; rw [← hi2]; exact z.2.1; exfalso; omega) (by have h9 := hd154; rw [hyc9] at h9; exact h9) (fin_p (by omega) hE172.2 rfl))⟩)))⟩, rfl⟩
        ·
          refine w_ldI e108_286 (fun _ => rfl) rfl ?_
          refine w_stI (j := 12) (A1 := [some (.ref 238), some (.int (vz i1)), some (.long l_2), none, some (.int (vz i3)), some (.long y5), none, some (.int (vz x7)), some (.int (vz x8)), some (.int (vz x9)), some (.long y10), none, some (.int (vz x8))]) e108_288 (fun _ => rfl) (by decide) rfl ?_
          exact w_sub (A1 := [some (.ref 238), some (.int (vz i1)), some (.long l_2), none, some (.int (vz i3)), none, none, some (.int (vz x7)), some (.int (vz x8)), none, none, none, some (.int (vz x8))]) (And.intro rfl (And.intro rfl (And.intro rfl (And.intro rfl (And.intro rfl (And.intro rfl (And.intro rfl trivial))))))) ((ih.2.2.2.2.2) vh sc_ al x7 x8 x8 hM hK hF (by omega) (by omega) (by omega) hi0 (sg_gd (s := i1) hJ.1.2 (by omega) rfl) (by omega) shf_0 hi3 (fun j hj => by rw [← hi2]; exact hi4 j hj) (by rcases hi5 with z | z; rw [← hi2]; exact z.2.1; exfalso; omega) (by have e9 : y10 = al 243 ((60 * i1).toNat + (x8).toNat) := (by rcases hi5 with z | z; exact z.2.2; exfalso; omega); rw [← e9]; exact ⟨by omega, by unfold vr; omega, by unfold sr; omega, by omega⟩) (by omega))
      ·
        refine w_ldA e108_241 (fun _ => rfl) rfl ?_
        have e182 := tm_o hM
        refine w_get e108_242 e182 rfl ?_
        refine w_ldI e108_245 (fun _ => rfl) rfl ?_
        refine w_ldI e108_247 (fun _ => rfl) rfl ?_
        refine w_iadd e108_249 ?_
        refine w_ldL e108_250 (fun _ => rfl) rfl ?_
        have e183 := tm_l hM (a := 243) (n := 4320) rfl
        refine w_lst e108_251 e183 (by omega) (by omega) (by decide) (fun v186 b184 h185 => ?_)
        obtain ⟨al187, hd189, hM188⟩ : ∃ z, z = u2 al 243 (x7 + x8).toNat l_2 ∧ tm sc_ ai z az v0 v186 := ⟨_, rfl, tm_pl hM rfl b184 h185⟩
        have hF190 : fr [0, 10, 11, 12, 18] [] (i1).toNat (i1).toNat sc ai al az sc_ ai al187 az := fr_k hF hd189 (by decide) (by omega)
        have hR191 := ri2_fr hi0 hK (fr_k (X := []) (Y := []) (lo := (i1).toNat) (hi := (i1).toNat) (fr_0 _ _ _ _ sc_ ai al az) hd189 (by decide) (by omega)) rfl rfl rfl rfl rfl rfl rfl rfl rfl (by omega)
        have hS192 := sjk_fr hi0.1 hK (fr_k (X := []) (Y := []) (lo := (i1).toNat) (hi := (i1).toNat) (fr_0 _ _ _ _ sc_ ai al az) hd189 (by decide) (by omega)) rfl rfl
        have hsg193 := sg_put (sg_gd (s := i1) hJ.1.2 (by omega) rfl) (by omega) (by omega) (show gl l_2 from ⟨by omega, by omega, by omega⟩) hd189
        refine w_ldA e108_252 (fun _ => rfl) rfl ?_
        have e194 := tm_o hM188
        refine w_get e108_253 e194 rfl ?_
        refine w_ldI e108_256 (fun _ => rfl) rfl ?_
        refine w_ldI e108_258 (fun _ => rfl) rfl ?_
        refine w_iadd e108_260 ?_
        refine w_ldL e108_261 (fun _ => rfl) rfl ?_
        have e195 := tm_l hM188 (a := 244) (n := 4320) rfl
        refine w_lst e108_263 e195 (by omega) (by omega) (by decide) (fun v198 b196 h197 => ?_)
        obtain ⟨al199, hd201, hM200⟩ : ∃ z, z = u2 al187 244 (x7 + x8).toNat y5 ∧ tm sc_ ai z az v0 v198 := ⟨_, rfl, tm_pl hM188 rfl b196 h197⟩
        have hF202 : fr [0, 10, 11, 12, 18] [] (i1).toNat (i1).toNat sc ai al az sc_ ai al199 az := fr_k hF190 hd201 (by decide) (by omega)
        have hR203 := ri2_fr hR191 hK (fr_k (X := []) (Y := []) (lo := (i1).toNat) (hi := (i1).toNat) (fr_0 _ _ _ _ sc_ ai al187 az) hd201 (by decide) (by omega)) rfl rfl rfl rfl rfl rfl rfl rfl rfl (by omega)
        have hS204 := sjk_fr hS192 hK (fr_k (X := []) (Y := []) (lo := (i1).toNat) (hi := (i1).toNat) (fr_0 _ _ _ _ sc_ ai al187 az) hd201 (by decide) (by omega)) rfl rfl
        have hsg205 := sg_k hsg193 hd201
        refine w_ldA e108_264 (fun _ => rfl) rfl ?_
        have e206 := tm_o hM200
        refine w_get e108_265 e206 rfl ?_
        refine w_ldI e108_268 (fun _ => rfl) rfl ?_
        refine w_x e108_269 (fun _ => rfl) ?_
        have e207 := tm_i hM200 (a := 242) (n := 72) rfl
        refine w_ald e108_270 e207 (by omega) (by omega) (by decide) ?_
        show vm_Wp _ _ _ 271 _ [.int (vz (ai 242 (i1).toNat)), .int (vz i1), .ref 242] _ _
        have hk208 := hK.1 (i1).toNat
        refine w_kI e108_271 ?_
        refine w_iadd e108_272 ?_
        refine w_ast e108_273 e207 (by omega) (by omega) (by decide) (by decide) (fun v211 b209 h210 => ?_)
        obtain ⟨ai212, hd214, hM213⟩ : ∃ z, z = u2 ai 242 (i1).toNat ((ai 242 (i1).toNat) + 1) ∧ tm sc_ z al199 az v0 v211 := ⟨_, rfl, tm_pi hM200 rfl (by omega) b209 h210⟩
        have hK215 : tmok ai212 := by rw [hd214]; exact tmok_c hK (by omega)
        have hF216 : fr [0, 10, 11, 12, 18] [] (i1).toNat (i1).toNat sc ai al az sc_ ai212 al199 az := fr_c hF202 hd214 (by omega)
        have hR217 := ri2_fr hR203 hK (fr_c (X := []) (Y := []) (lo := (i1).toNat) (hi := (i1).toNat) (fr_0 _ _ _ _ sc_ ai al199 az) hd214 (by omega)) rfl rfl rfl rfl rfl rfl rfl rfl rfl (by omega)
        have hS218 := sjk_fr hS204 hK (fr_c (X := []) (Y := []) (lo := (i1).toNat) (hi := (i1).toNat) (fr_0 _ _ _ _ sc_ ai al199 az) hd214 (by omega)) rfl rfl
        have hI219 : gi sc_ ai212 al199 az := gi_new hI (s := i1) (by omega) hF216 (hF216.1 1 rfl) (hF216.1 4 rfl) (hF216.1 38 rfl) rfl hK215 (fun t ht => hsg205 t (by rw [hd214, u2_s] at ht; omega))
        refine w_x e108_274 (fun _ => rfl) ?_
        refine w_ldA e108_380 (fun _ => rfl) rfl ?_
        refine w_ldI e108_381 (fun _ => rfl) rfl ?_
        have e220 := tm_o hM213
        refine w_cv e108_382 (by decide) rfl e220 rfl (Nat.le_of_ble_eq_true rfl) (Nat.le_of_ble_eq_true rfl) (Nat.le_of_ble_eq_true rfl) (by decide) (by decide) (k80x hM213 hK215 hI219 (by omega)) (fun o221 v222 hq223 => ?_)
        obtain ⟨⟨sc224, ai225, al226, az227, hM228, hK229, hI230, hG231, hE232⟩, rfl⟩ := hq223
        have hs233 : sc224 0 = sc_ 0 := hG231.1 0 rfl
        have hs234 : sc224 1 = sc_ 1 := hG231.1 1 rfl
        have hs235 : sc224 4 = sc_ 4 := hG231.1 4 rfl
        have hs236 : sc224 11 = sc_ 11 := hG231.1 11 rfl
        have hs237 : sc224 18 = sc_ 18 := hG231.1 18 rfl
        have hs238 : sc224 38 = sc_ 38 := hG231.1 38 rfl
        have hF239 : fr [0, 10, 11, 12, 18] [] (i1).toNat (i1).toNat sc ai al az sc224 ai225 al226 az227 := fr_t hF216 hG231 rfl rfl (by omega)
        have hR240 := ri2_fr hR217 hK215 hG231 rfl rfl rfl rfl rfl rfl rfl rfl rfl (by omega)
        have hS241 := sjk_fr hS218 hK215 hG231 rfl rfl
        refine w_kI e108_385 ?_
        exact w_rz e108_386 rfl (by omega) ⟨sc224, ai225, al226, az227, hM228, hK229, hI230, hF239, hR240, 1, Or.inr ⟨by omega, hi3, x8, ⟨by omega, (fun j hj => by rw [← hi2]; exact hi4 j hj), (fun h9 => by rcases hi5 with z | z; rw [← hi2]; exact z.2.1; exfalso; omega)⟩, Or.inr (Or.inr (Or.inl ⟨rfl, by omega, by unfold vr; omega, by omega, by unfold sr; omega, by omega, (by rw [hE232.1]; exact (by rw [hd214, u2_s])), (by rw [hE232.1, show ai212 242 (i1).toNat = ai 242 (i1).toNat + 1 from (by rw [hd214, u2_s])]; rw [← hi2]; exact put_f ⟨by omega, hx7⟩ (by omega) (by omega) hd189 hd201 (fin_p (by omega) hE232.2 (by rw [hd214, u2_s])))⟩))⟩, rfl⟩
    ·
      intro vh sc_ al_ x7 x8 x12 hM hK hF hx7 hx8 hx12 hi0 hi1 hi2 hi3 hi4 hi5 hi6 hi7 hN
      have hn8 := hI.1.1
      have hcg := hK.1 (i1).toNat
      have hnz8 := hi7.2.2.2
      refine w_ldI e108_290 (fun _ => rfl) rfl ?_
      refine w_kI e108_292 ?_
      refine w_iadd e108_293 ?_
      refine w_ldA e108_294 (fun _ => rfl) rfl ?_
      have e242 := tm_o hM
      refine w_get e108_295 e242 rfl ?_
      refine w_ldI e108_298 (fun _ => rfl) rfl ?_
      have e243 := tm_i hM (a := 242) (n := 72) rfl
      refine w_ald e108_299 e243 (by omega) (by omega) (by decide) ?_
      show vm_Wp _ _ _ 300 _ [.int (vz (ai 242 (i1).toNat)), .int (vz (x12 + 1))] _ _
      have hk244 := hK.1 (i1).toNat
      refine w_ic e108_300 (by omega) (tm_r hM 242 (i1).toNat) (fun (h245 : ai 242 (i1).toNat ≤ x12 + 1) => ?_) (fun (h245 : x12 + 1 < ai 242 (i1).toNat) => ?_)
      ·
        refine w_ldA e108_353 (fun _ => rfl) rfl ?_
        refine w_get e108_354 e242 rfl ?_
        refine w_ldI e108_357 (fun _ => rfl) rfl ?_
        refine w_x e108_358 (fun _ => rfl) ?_
        refine w_ald e108_359 e243 (by omega) (by omega) (by decide) ?_
        show vm_Wp _ _ _ 360 _ [.int (vz (ai 242 (i1).toNat)), .int (vz i1), .ref 242] _ _
        have hk246 := hK.1 (i1).toNat
        refine w_kI e108_360 ?_
        refine w_isub e108_361 ?_
        refine w_ast e108_362 e243 (by omega) (by omega) (by decide) (by decide) (fun v249 b247 h248 => ?_)
        obtain ⟨ai250, hd252, hM251⟩ : ∃ z, z = u2 ai 242 (i1).toNat ((ai 242 (i1).toNat) - 1) ∧ tm sc_ z al_ az v0 v249 := ⟨_, rfl, tm_pi hM rfl (by omega) b247 h248⟩
        have hK253 : tmok ai250 := by rw [hd252]; exact tmok_c hK (by omega)
        have hF254 : fr [0, 10, 11, 12, 18] [] (i1).toNat (i1).toNat sc ai al az sc_ ai250 al_ az := fr_c hF hd252 (by omega)
        have hR255 := ri2_fr hi0 hK (fr_c (X := []) (Y := []) (lo := (i1).toNat) (hi := (i1).toNat) (fr_0 _ _ _ _ sc_ ai al_ az) hd252 (by omega)) rfl rfl rfl rfl rfl rfl rfl rfl rfl (by omega)
        have hS256 := sjk_fr hi0.1 hK (fr_c (X := []) (Y := []) (lo := (i1).toNat) (hi := (i1).toNat) (fr_0 _ _ _ _ sc_ ai al_ az) hd252 (by omega)) rfl rfl
        have hI257 : gi sc_ ai250 al_ az := gi_new hI (s := i1) (by omega) hF254 (hF254.1 1 rfl) (hF254.1 4 rfl) (hF254.1 38 rfl) rfl hK253 (fun t ht => hi1 t (by rw [hd252, u2_s] at ht; omega))
        refine w_x e108_363 (fun _ => rfl) ?_
        refine w_ldA e108_380 (fun _ => rfl) rfl ?_
        refine w_ldI e108_381 (fun _ => rfl) rfl ?_
        have e258 := tm_o hM251
        refine w_cv e108_382 (by decide) rfl e258 rfl (Nat.le_of_ble_eq_true rfl) (Nat.le_of_ble_eq_true rfl) (Nat.le_of_ble_eq_true rfl) (by decide) (by decide) (k80x hM251 hK253 hI257 (by omega)) (fun o259 v260 hq261 => ?_)
        obtain ⟨⟨sc262, ai263, al264, az265, hM266, hK267, hI268, hG269, hE270⟩, rfl⟩ := hq261
        have hs271 : sc262 0 = sc_ 0 := hG269.1 0 rfl
        have hs272 : sc262 1 = sc_ 1 := hG269.1 1 rfl
        have hs273 : sc262 4 = sc_ 4 := hG269.1 4 rfl
        have hs274 : sc262 11 = sc_ 11 := hG269.1 11 rfl
        have hs275 : sc262 18 = sc_ 18 := hG269.1 18 rfl
        have hs276 : sc262 38 = sc_ 38 := hG269.1 38 rfl
        have hF277 : fr [0, 10, 11, 12, 18] [] (i1).toNat (i1).toNat sc ai al az sc262 ai263 al264 az265 := fr_t hF254 hG269 rfl rfl (by omega)
        have hR278 := ri2_fr hR255 hK253 hG269 rfl rfl rfl rfl rfl rfl rfl rfl rfl (by omega)
        have hS279 := sjk_fr hS256 hK253 hG269 rfl rfl
        refine w_kI e108_385 ?_
        exact w_rz e108_386 rfl (by omega) ⟨sc262, ai263, al264, az265, hM266, hK267, hI268, hF277, hR278, 1, Or.inr ⟨by omega, hi4, x8, ⟨by omega, hi5, fun _ => hi6⟩, Or.inr (Or.inr (Or.inr (Or.inl ⟨rfl, by omega, hi7.2.1, by omega, hi7.2.2.1, hi7.1, (by rw [hE270.1]; exact (by rw [hd252, u2_s])), (by rw [hE270.1, show ai250 242 (i1).toNat = ai 242 (i1).toNat - 1 from (by rw [hd252, u2_s])]; exact shf_f (by omega) (by omega) hi3 (by omega) hi6 (fin_p (by omega) hE270.2 (by rw [hd252, u2_s])))⟩)))⟩, rfl⟩
      ·
        refine w_ldA e108_303 (fun _ => rfl) rfl ?_
        refine w_get e108_304 e242 rfl ?_
        refine w_ldI e108_307 (fun _ => rfl) rfl ?_
        refine w_ldI e108_309 (fun _ => rfl) rfl ?_
        refine w_iadd e108_311 ?_
        refine w_ldA e108_312 (fun _ => rfl) rfl ?_
        refine w_get e108_313 e242 rfl ?_
        refine w_ldI e108_316 (fun _ => rfl) rfl ?_
        refine w_ldI e108_318 (fun _ => rfl) rfl ?_
        refine w_iadd e108_320 ?_
        refine w_kI e108_321 ?_
        refine w_iadd e108_322 ?_
        have e280 := tm_l hM (a := 243) (n := 4320) rfl
        refine w_lld e108_323 e280 (by omega) (by omega) (by decide) ?_
        refine w_lst e108_324 e280 (by omega) (by omega) (by decide) (fun v283 b281 h282 => ?_)
        obtain ⟨al284, hd286, hM285⟩ : ∃ z, z = u2 al_ 243 (x7 + x12).toNat ((al_ 243 ((x7 + x12) + 1).toNat)) ∧ tm sc_ ai z az v0 v283 := ⟨_, rfl, tm_pl hM rfl b281 h282⟩
        have hF287 : fr [0, 10, 11, 12, 18] [] (i1).toNat (i1).toNat sc ai al az sc_ ai al284 az := fr_k hF hd286 (by decide) (by omega)
        have hR288 := ri2_fr hi0 hK (fr_k (X := []) (Y := []) (lo := (i1).toNat) (hi := (i1).toNat) (fr_0 _ _ _ _ sc_ ai al_ az) hd286 (by decide) (by omega)) rfl rfl rfl rfl rfl rfl rfl rfl rfl (by omega)
        have hS289 := sjk_fr hi0.1 hK (fr_k (X := []) (Y := []) (lo := (i1).toNat) (hi := (i1).toNat) (fr_0 _ _ _ _ sc_ ai al_ az) hd286 (by decide) (by omega)) rfl rfl
        have hsg290 := sg_w hi1 (sg_at hi1 (t := x12 + 1) (by omega) (by omega)) hd286
        refine w_ldA e108_325 (fun _ => rfl) rfl ?_
        have e291 := tm_o hM285
        refine w_get e108_326 e291 rfl ?_
        refine w_ldI e108_329 (fun _ => rfl) rfl ?_
        refine w_ldI e108_331 (fun _ => rfl) rfl ?_
        refine w_iadd e108_333 ?_
        refine w_ldA e108_334 (fun _ => rfl) rfl ?_
        refine w_get e108_335 e291 rfl ?_
        refine w_ldI e108_338 (fun _ => rfl) rfl ?_
        refine w_ldI e108_340 (fun _ => rfl) rfl ?_
        refine w_iadd e108_342 ?_
        refine w_kI e108_343 ?_
        refine w_iadd e108_344 ?_
        have e292 := tm_l hM285 (a := 244) (n := 4320) rfl
        refine w_lld e108_345 e292 (by omega) (by omega) (by decide) ?_
        refine w_lst e108_346 e292 (by omega) (by omega) (by decide) (fun v295 b293 h294 => ?_)
        obtain ⟨al296, hd298, hM297⟩ : ∃ z, z = u2 al284 244 (x7 + x12).toNat ((al284 244 ((x7 + x12) + 1).toNat)) ∧ tm sc_ ai z az v0 v295 := ⟨_, rfl, tm_pl hM285 rfl b293 h294⟩
        have hF299 : fr [0, 10, 11, 12, 18] [] (i1).toNat (i1).toNat sc ai al az sc_ ai al296 az := fr_k hF287 hd298 (by decide) (by omega)
        have hR300 := ri2_fr hR288 hK (fr_k (X := []) (Y := []) (lo := (i1).toNat) (hi := (i1).toNat) (fr_0 _ _ _ _ sc_ ai al284 az) hd298 (by decide) (by omega)) rfl rfl rfl rfl rfl rfl rfl rfl rfl (by omega)
        have hS301 := sjk_fr hS289 hK (fr_k (X := []) (Y := []) (lo := (i1).toNat) (hi := (i1).toNat) (fr_0 _ _ _ _ sc_ ai al284 az) hd298 (by decide) (by omega)) rfl rfl
        have hsg302 := sg_k hsg290 hd298
        refine w_iinc (A1 := [some (.ref 238), some (.int (vz i1)), some (.long l_2), none, some (.int (vz i3)), none, none, some (.int (vz x7)), some (.int (vz x8)), none, none, none, some (.int (vz (x12 + 1)))]) e108_347 rfl (by decide) rfl ?_
        refine w_x e108_350 (fun _ => rfl) ?_
        exact w_sub (A1 := [some (.ref 238), some (.int (vz i1)), some (.long l_2), none, some (.int (vz i3)), none, none, some (.int (vz x7)), some (.int (vz x8)), none, none, none, some (.int (vz (x12 + 1)))]) (And.intro rfl (And.intro rfl (And.intro rfl (And.intro rfl (And.intro rfl (And.intro rfl (And.intro rfl trivial))))))) ((ih.2.2.2.2.2) v295 sc_ al296 x7 x8 (x12 + 1) hM297 hK hF299 (by omega) (by omega) (by omega) hR300 hsg302 (by omega) (shf_s hi3 ⟨by omega, hx7⟩ (by omega) hd286 hd298) hi4 hi5 hi6 hi7 (by omega))
set_option maxRecDepth 100000 in
set_option maxHeartbeats 4000000 in
theorem c108x {sc : Nat → Int} {ai : Nat → Nat → Int} {al : Nat → Nat → Int64} {az : Nat → Nat → Int32} {v0 vh : vm_H} (hM : tm sc ai al az v0 vh) (hK : tmok ai) (hI : gi sc ai al az) {i1 : Int} (hi_1 : -2147483648 ≤ i1 ∧ i1 < 2147483648) {l_2 : Int64} {i3 : Int} (hi_3 : -2147483648 ≤ i3 ∧ i3 < 2147483648) (hR : ri2 sc ai al az) : vm_Rp 3 77 108 [.ref 238, .int (vz i1), .long l_2, .int (vz i3)] vh (fun r v1 => (∃ (sc1 : Nat → Int) (ai1 : Nat → Nat → Int) (al1 : Nat → Nat → Int64) (az1 : Nat → Nat → Int32), tm sc1 ai1 al1 az1 v0 v1 ∧ tmok ai1 ∧ gi sc1 ai1 al1 az1 ∧ fr [0, 10, 11, 12, 18] [] (i1).toNat (i1).toNat sc ai al az sc1 ai1 al1 az1 ∧ (ri2 sc1 ai1 al1 az1 ∧ ∃ q : Int, ((q = 0 ∧ ai1 = ai ∧ al1 = al ∧ (¬ (0 ≤ i1 ∧ i1 < sc 4) ∨ ¬ val (sc 1).toNat (vz i3))) ∨ ((0 ≤ i1 ∧ i1 < sc 4) ∧ val (sc 1).toNat (vz i3) ∧ ∃ t : Int, fnd (fun j => al 244 ((60 * i1).toNat + j)) (ai 242 (i1).toNat) (kof idv (vz i3) 8) t ∧ rtr (ls (pr_ al (60 * i1).toNat) (ai 242 (i1).toNat).toNat) (fun j => al 244 ((60 * i1).toNat + j)) (fun j => al 243 ((60 * i1).toNat + j)) (ai 242 (i1).toNat) (kof idv (vz i3) 8) l_2 q (ai1 242 (i1).toNat) (ls (pr_ al1 (60 * i1).toNat) (ai1 242 (i1).toNat).toNat) t)) ∧ r = some (.int (vz q))))) := by
  have hF0 : fr [0, 10, 11, 12, 18] [] (i1).toNat (i1).toNat sc ai al az sc ai al az := fr_0 _ _ _ _ _ _ _ _
  have hn8 := hI.1.1
  have hz0 : (Int64.ofNat 0).toInt = 0 := rfl
  refine w_in (m := 8) ?_
  show vm_Wp _ _ _ 0 [some (.ref 238), some (.int (vz i1)), some (.long l_2), none, some (.int (vz i3)), none, none, none, none, none, none, none, none] [] _ _
  refine w_ldA e108_0 (fun _ => rfl) rfl ?_
  refine w_kI e108_1 ?_
  have e1 := tm_o hM
  refine w_put e108_2 e1 (Nat.le_of_ble_eq_true rfl) rfl (fun v4 b2 h3 => ?_)
  obtain ⟨sc5, hd7, hM6⟩ : ∃ z, z = u1 sc 0 (0) ∧ tm z ai al az v0 v4 := ⟨_, rfl, tm_ps 0 hM (by omega) b2 h3⟩
  have hs8 : sc5 0 = 0 := by rw [hd7]; exact u1_s
  have hs9 : sc5 1 = sc 1 := by rw [hd7]; exact u1_o (by decide)
  have hs10 : sc5 4 = sc 4 := by rw [hd7]; exact u1_o (by decide)
  have hs11 : sc5 11 = sc 11 := by rw [hd7]; exact u1_o (by decide)
  have hs12 : sc5 18 = sc 18 := by rw [hd7]; exact u1_o (by decide)
  have hs13 : sc5 38 = sc 38 := by rw [hd7]; exact u1_o (by decide)
  have hF14 : fr [0, 10, 11, 12, 18] [] (i1).toNat (i1).toNat sc ai al az sc5 ai al az := fr_s hF0 hd7 rfl
  have hI15 : gi sc5 ai al az := gi_s hI hd7 (by decide) (by decide) (by decide)
  have hR16 := ri2_fr hR hK (fr_s (X := [0]) (Y := []) (lo := 1) (hi := 0) (fr_0 _ _ _ _ sc ai al az) hd7 rfl) rfl rfl rfl rfl rfl rfl rfl rfl rfl (by omega)
  have hS17 := sjk_fr hR.1 hK (fr_s (X := [0]) (Y := []) (lo := 1) (hi := 0) (fr_0 _ _ _ _ sc ai al az) hd7 rfl) rfl rfl
  refine w_ldA e108_5 (fun _ => rfl) rfl ?_
  refine w_ldI e108_6 (fun _ => rfl) rfl ?_
  have e18 := tm_o hM6
  refine w_cv e108_7 (by decide) rfl e18 rfl (Nat.le_of_ble_eq_true rfl) (Nat.le_of_ble_eq_true rfl) (Nat.le_of_ble_eq_true rfl) (by decide) (by decide) (c103 hM6 hK hi_1) (fun o19 v20 hq21 => ?_)
  obtain ⟨rfl, q22, h23, rfl⟩ := hq21
  refine w_if e108_10 (by omega) (fun (h24 : q22 = 0) => ?_) (fun (h24 : q22 ≠ 0) => ?_)
  ·
    refine w_x e108_15 (fun _ => rfl) ?_
    refine w_stL (j := 5) (A1 := [some (.ref 238), some (.int (vz i1)), some (.long l_2), none, some (.int (vz i3)), some (.long ((Int64.ofNat 0))), none, none, none, none, none, none, none]) e108_16 (fun _ => rfl) (by decide) rfl ?_
    refine w_kI e108_18 ?_
    refine w_stI (j := 7) (A1 := [some (.ref 238), some (.int (vz i1)), some (.long l_2), none, some (.int (vz i3)), some (.long ((Int64.ofNat 0))), none, some (.int (vz 0)), none, none, none, none, none]) e108_19 (fun _ => rfl) (by decide) rfl ?_
    exact w_sub (A1 := [some (.ref 238), some (.int (vz i1)), some (.long l_2), none, some (.int (vz i3)), some (.long ((Int64.ofNat 0))), none, some (.int (vz 0)), none, none, none, none, none]) (And.intro rfl (And.intro rfl (And.intro rfl (And.intro rfl (And.intro rfl (And.intro rfl trivial)))))) (((c108x_L (sc := sc) (ai := ai) (al := al) (az := az) (v0 := v0) (i1 := i1) (l_2 := l_2) (i3 := i3) hK hI hi_1 hi_3 hR _).1) v4 sc5 ((Int64.ofNat 0)) 0 hM6 hK hI15 hF14 (by omega) hR16 (by omega) rfl vlx_0 (Nat.lt_succ_self _))
  ·
    refine w_kI e108_13 ?_
    exact w_rz e108_14 rfl (by omega) ⟨sc5, ai, al, az, hM6, hK, hI15, hF14, hR16, 0, Or.inl ⟨rfl, rfl, rfl, Or.inl (by omega)⟩, rfl⟩
