/-! Both objects between the law's calls: what is kept for decompose, besides lI. -/
def frO (V : Nat → Int) (F : Nat → Int32) : Nat → Bool := fun p => decide (F (V p).toNat ≠ 0)
def hyO (H : Nat → Int32) : Nat → Bool := fun i => decide (H i ≠ 0)
noncomputable abbrev dT (fr : Nat → Bool) (nv : Nat) (U : Nat → Po) (hy : Nat → Bool) (np : Nat) : (Int × (Nat → Po) × Nat × Nat × Option Po) × Nat := deP fr nv (thP U hy np).1 (thP U hy np).2
abbrev S7 := (Nat → Po) × Nat × List Nat
/-- rounds, rows, steps, steps of proving; the condition, the remainder, the point; the set -/
abbrev T7 := (Int × Int × Int × Int) × (Po × Po × (Nat → Int64)) × Option S7
def fgC (T : T7) (c : Po) : T7 := (T.1, (c, [], T.2.1.2.2), none)
def ptE (f g : Nat → Int64) : Prop := ∀ t, t < 8 → f t = g t
abbrev fgT (T : T7) : T7 := fgC T T.2.1.1
def cdL (o : Option Po) : Po := match o with
  | some g => g
  | none => []
def c7K (nv : Nat) (Z : Nat → Nat → Int) (al : Nat → Nat → Int64) (a : Nat) (l : Po) : Prop := pL Z al a l ∧ gk nv l
def c7Q (V : Nat → Nat) (nv : Nat) (ai : Nat → Nat → Int) (al : Nat → Nat → Int64) (a : Nat) (l : Po) : Prop := qL V nv ai al a l ∧ gk nv l
noncomputable abbrev dS (fr : Nat → Bool) (nv : Nat) (t : (Int × (Nat → Po) × Nat × Nat × Option Po) × Nat) : S7 := (t.1.2.1, t.1.2.2.1, bsP fr nv t.1.2.1 t.1.2.2.1 8 [])
/-- the class's set is the one that decompose makes of the hypotheses -/
def stC (nv np : Nat) (fr hy : Nat → Bool) (Z : Nat → Nat → Int) (al : Nat → Nat → Int64) (mm : Nat → Option Nat) (o : Option S7) : Prop := match o with
  | none => Z 217 0 = 0
  | some s => 0 < Z 217 0 ∧ (rwK fr nv Z al s.1 s.2.1 ∧ mbK Z mm s.2.2 s.2.1 ∧ s.2.1 ≤ 40) ∧ ∃ U : Nat → Po, (∀ i, i < np → hy i = true → pL Z al (7 + 3 * i) (U i) ∧ gk nv (U i)) ∧ ((thP U hy np).2 ≠ 0 ∧ (dT fr nv U hy np).1.1 = 1) ∧ s = dS fr nv (dT fr nv U hy np) ∧ (Z 1 1 = ((dT fr nv U hy np).1.2.2.1 : Int) ∧ Z 1 4 = ((dT fr nv U hy np).1.2.2.2.1 : Int) ∧ Z 1 3 = ((dT fr nv U hy np).2 : Int)) ∧ c7K nv Z al 224 (cdL (dT fr nv U hy np).1.2.2.2.2)
def tC (nv : Nat) (Z : Nat → Nat → Int) (al : Nat → Nat → Int64) (T : T7) : Prop := (Z 1 3 = T.1.1 ∧ Z 1 1 = T.1.2.1 ∧ Z 1 4 = T.1.2.2.1 ∧ Z 1 5 = T.1.2.2.2) ∧ c7K nv Z al 224 T.2.1.1 ∧ c7K nv Z al 227 T.2.1.2.1 ∧ ptE (al 4) T.2.1.2.2
def jC (vh : vm_H) (V : Nat → Int) (F H : Nat → Int32) (T : T7) : Prop := ∃ (Z : Nat → Nat → Int) (al : Nat → Nat → Int64) (ai : Nat → Nat → Int) (az : Nat → Nat → Int32) (mm : Nat → Option Nat) (sk : Nat), tk Z al ai az mm sk vh vh ∧ kn Z ∧ (ai 5 = V ∧ az 3 = F ∧ az 55 = H) ∧ (∃ fp, pL Z al 230 fp ∧ gk (Z 2 0).toNat fp) ∧ (∀ i : Nat, Z 1 0 ≤ (i : Int) → i < 16 → H i = 0) ∧ tC (Z 2 0).toNat Z al T ∧ stC (Z 2 0).toNat (Z 1 0).toNat (frO V F) (hyO H) Z al mm T.2.2
def tQ (V : Nat → Nat) (nv : Nat) (sc : Nat → Int) (ai : Nat → Nat → Int) (al : Nat → Nat → Int64) (T : T7) : Prop := (sc 14 = T.1.1 ∧ sc 15 = T.1.2.1 ∧ sc 16 = T.1.2.2.1 ∧ sc 17 = T.1.2.2.2) ∧ ((sc 13 = 0 ∧ T.2.1.1 = []) ∨ (sc 13 = 1 ∧ c7Q V nv ai al 68 T.2.1.1)) ∧ ((sc 12 = 0 ∧ T.2.1.2.1 = []) ∨ (sc 12 = 1 ∧ c7Q V nv ai al 67 T.2.1.2.1)) ∧ ptE (al 245) T.2.1.2.2
def stQ (V : Nat → Nat) (nv : Nat) (sc : Nat → Int) (ai : Nat → Nat → Int) (al : Nat → Nat → Int64) (o : Option S7) : Prop := match o with
  | none => sc 10 = 0 ∧ sc 11 = 0
  | some s => (sc 10 = 1 ∧ sc 11 = (s.2.2.length : Int)) ∧ ∀ j, j < s.2.2.length → qL V nv ai al (58 + j) (s.1 (s.2.2.reverse.getD j 0)) ∧ gk nv (s.1 (s.2.2.reverse.getD j 0))
def jR (vh : vm_H) (V : Nat → Int) (F H : Nat → Int32) (T : T7) : Prop := ∃ (sc : Nat → Int) (ai : Nat → Nat → Int) (al : Nat → Nat → Int64) (az : Nat → Nat → Int32), tm sc ai al az vh vh ∧ (ai 240 = V ∧ az 239 = F ∧ az 241 = H) ∧ (∀ i : Nat, i < 16 → sW V (sc 1) (ls (pr_ al (60 * i)) (ai 242 i).toNat)) ∧ tQ (vO V) (sc 1).toNat sc ai al T ∧ stQ (vO V) (sc 1).toNat sc ai al T.2.2
def uW (n : Int) (u : D5u) (w : D5w) (U : Nat → Po) : Prop := ∀ i, i < 16 → (u.2.1 i = ((U i).length : Int) ∧ ls (fun t => (u.2.2.1 i t, u.2.2.2 i t)) (U i).length = (U i).map en) ∧ gk n.toNat (U i) ∧ (w.1 i = ((U i).length : Int) ∧ w.2 i = (U i).map (enR (vO u.1) n.toNat))
noncomputable def dA (n p : Int) (V : Nat → Int) (F H : Nat → Int32) (U : Nat → Po) : Int := if (thP U (hyO H) p.toNat).2 = 0 then -1 else (dT (frO V F) n.toNat U (hyO H) p.toNat).1.1
def vN (n : Int) (V : Nat → Int) : Nat → Int := if n < 8 then u1 V n.toNat n else V
def fN (n i : Int) (F : Nat → Int32) : Nat → Int32 := if n < 8 then u1 F n.toNat (vz i &&& 1) else F
def hN7 (p i1 i2 : Int) (H : Nat → Int32) : Nat → Int32 := if (0 ≤ i1 ∧ i1 < p) ∧ H i1.toNat ≠ vz i2 then u1 H i1.toNat (vz i2 &&& 1) else H
def tN (n : Int) (T : T7) : T7 := if n < 8 then fgT T else T
def tU (p i1 i2 : Int) (H : Nat → Int32) (T : T7) : T7 := if (0 ≤ i1 ∧ i1 < p) ∧ H i1.toNat ≠ vz i2 then fgT T else T
noncomputable def tD (n p : Int) (V : Nat → Int) (F H : Nat → Int32) (U : Nat → Po) (T : T7) : T7 := if (thP U (hyO H) p.toNat).2 = 0 then T else ((((dT (frO V F) n.toNat U (hyO H) p.toNat).2 : Int), ((dT (frO V F) n.toNat U (hyO H) p.toNat).1.2.2.1 : Int), ((dT (frO V F) n.toNat U (hyO H) p.toNat).1.2.2.2.1 : Int), T.1.2.2.2), (cdL (dT (frO V F) n.toNat U (hyO H) p.toNat).1.2.2.2.2, [], T.2.1.2.2), if (dT (frO V F) n.toNat U (hyO H) p.toNat).1.1 = 1 then some (dS (frO V F) n.toNat (dT (frO V F) n.toNat U (hyO H) p.toNat)) else none)
noncomputable abbrev rP (fr : Nat → Bool) (nv : Nat) (s : S7) (f : Po) : Bool × Nat × Po := rdP (mbP fr nv s.1 s.2.2) 200 s.2.2.length f
/-- prove: the answer, and what it leaves -/
noncomputable def pA (n p : Int) (V : Nat → Int) (F : Nat → Int32) (U : Nat → Po) (i1 : Int) (T : T7) : Int := match T.2.2 with
  | none => -1
  | some s => if 0 ≤ i1 ∧ i1 < p then (if (rP (frO V F) n.toNat s (U i1.toNat)).1 = true then (if (rP (frO V F) n.toNat s (U i1.toNat)).2.2.length = 0 then 1 else 0) else 2) else -1
noncomputable def tP (n p : Int) (V : Nat → Int) (F : Nat → Int32) (U : Nat → Po) (i1 : Int) (T : T7) : T7 := match T.2.2 with
  | none => T
  | some s => if 0 ≤ i1 ∧ i1 < p then ((T.1.1, T.1.2.1, T.1.2.2.1, ((rP (frO V F) n.toNat s (U i1.toNat)).2.1 : Int)), (T.2.1.1, if (rP (frO V F) n.toNat s (U i1.toNat)).1 = true then (rP (frO V F) n.toNat s (U i1.toNat)).2.2 else [], T.2.1.2.2), some s) else T
def pnT (n i1 : Int) (l : Int64) (T : T7) : T7 := if 0 ≤ i1 ∧ i1 < n then (T.1, (T.2.1.1, T.2.1.2.1, vp_updL T.2.1.2.2 i1.toNat l), T.2.2) else T
/-- when term forgets -/
def tmR (i1 : Int) (l2 : Int64) (H : Nat → Int32) (q : Int) (T T1 : T7) : Prop := (T1 = T ∧ ¬ (q = 1 ∧ l2.toInt ≠ 0 ∧ H i1.toNat ≠ 0)) ∨ (T1 = fgT T ∧ q = 1 ∧ l2.toInt ≠ 0 ∧ H i1.toNat ≠ 0)
def oR (n i1 i2 : Int) (V V1 : Nat → Int) (T T1 : T7) : Prop := ((V1 = V ∧ T1 = T) ∧ (¬ ((0 ≤ i1 ∧ i1 < n) ∧ (0 ≤ i2 ∧ i2 < n)) ∨ ((0 ≤ i1 ∧ i1 < n) ∧ V i1.toNat = i2))) ∨ ∃ f : Nat, ((f : Int) < n ∧ V f = i2 ∧ (f : Int) ≠ i1) ∧ ((0 ≤ i1 ∧ i1 < n) ∧ (0 ≤ i2 ∧ i2 < n)) ∧ (V1 = mvF V f i1.toNat ∧ ∃ c, T1 = fgC T c ∧ mvR V V1 n T.2.1.1 c)
section JJ
variable {Z Z1 : Nat → Nat → Int} {al al1 : Nat → Nat → Int64} {ai ai1 : Nat → Nat → Int} {az az1 : Nat → Nat → Int32} {mm mm1 : Nat → Option Nat} {sk sk1 : Nat} {v0 vh v1 : vm_H} {V V1 : Nat → Int} {F H F1 H1 : Nat → Int32} {L : Nat} {xs : Nat → Int32} {n p n2 p2 t : Int} {g : Int64} {u : D5u} {w : D5w} {sc sc1 : Nat → Int} {nv np : Nat} {fr hy : Nat → Bool} {U U1 : Nat → Po} {l l1 : Po} {T T1 : T7} {o : Option S7}
theorem tk_rf (h : tk Z al ai az mm sk v0 vh) : tk Z al ai az mm sk vh vh := ⟨rfl, fun _ _ => rfl, h.2.2⟩
theorem tk_al (h : tk Z al ai az mm sk vh vh) (e : ∀ a, a < 238 → vm_at v1 a = vm_at vh a) : tk Z al ai az mm sk v1 v1 := ⟨rfl, fun _ _ => rfl, h.2.2.1, fun a => by
  by_cases q : a < 238
  · rw [e a q]; exact h.2.2.2 a
  · rw [ty_hi (by omega)]; exact trivial⟩
theorem jC_al (h : jC vh V F H T) (e : ∀ a, a < 238 → vm_at v1 a = vm_at vh a) : jC v1 V F H T := by
  obtain ⟨Z, al, ai, az, mm, sk, hT, h9⟩ := h
  exact ⟨Z, al, ai, az, mm, sk, tk_al hT e, h9⟩
theorem jR_al (h : jR vh V F H T) (e : ∀ a, 238 ≤ a → a < 263 → vm_at v1 a = vm_at vh a) : jR v1 V F H T := by
  obtain ⟨sc, ai, al, az, hM, h9⟩ := h
  exact ⟨sc, ai, al, az, tm_al hM e, h9⟩
/-- the class moves, the reference stays; and back -/
theorem jR_k (h : jR vh V F H T) (hT : tk Z al ai az mm sk vh v1) : jR v1 V F H T := jR_al h fun a ha _ => hT.2.1 a (ty_hi ha)
theorem jC_k (h : jC vh V F H T) (hM : tm sc ai al az vh v1) : jC v1 V F H T := jC_al h fun a ha => hM.2.1 a (Or.inl ha)
theorem jl (hL : lI L xs vh n p n2 p2 t g u w) (hT : tk Z al ai az mm sk v0 vh) : (Z 2 0 = n ∧ Z 1 0 = p ∧ ai 5 = u.1) ∧ ∀ i, i < 16 → Z (7 + 3 * i) 0 = u.2.1 i ∧ al (7 + 3 * i + 1) = u.2.2.1 i ∧ al (7 + 3 * i + 2) = u.2.2.2 i := by
  have hbd := lI_b hL
  obtain ⟨θ, sc, ai2, al2, az2, fo, ⟨⟨rfl, rfl⟩, _⟩, hc, hM, hK, hI, hR, hS, hO, hU, hW⟩ := hL
  refine ⟨⟨?_, ?_, ?_⟩, fun i hi => ⟨?_, ?_, ?_⟩⟩
  · have e := (tk_pla hT).symm.trans (tc_places hc).2
    injection e with e
    injection e with e
    injection e with _ e
    injection e with e _
    injection e with e
    exact (vz_inj (tk_r hT 2 0) (by omega)).mp e
  · obtain ⟨rc, ws, ds, ps, _, _, _, _, _, _, e1⟩ := tc_main hc
    have e := (tk_main hT).symm.trans e1
    injection e with e
    injection e with e
    injection e with _ e
    injection e with _ e
    injection e with _ e
    injection e with _ e
    injection e with e _
    injection e with e
    exact (vz_inj (tk_r hT 1 0) (by omega)).mp e
  · have e := (tk_vars hT).symm.trans hU.1
    injection e with e
    injection e with e
    injection e with _ e
    injection e with _ e
    injection e with e
    funext j
    have hb := hU.2.1.1 j
    exact (vz_inj (tk_ri hT 5 j) (by omega)).mp (congrFun e j)
  · have hP := hU.2.2 i hi
    have e := (tk_poly hT (ty_pi i hi)).symm.trans hP.2.1
    injection e with e
    injection e with e
    injection e with _ e
    injection e with _ e
    injection e with _ e
    injection e with e _
    injection e with e
    have hb := hP.1.1
    exact (vz_inj (tk_r hT _ 0) (by omega)).mp e
  · have hP := hU.2.2 i hi
    have e := (tk_l60 hT (ty_p (ty_pi i hi)).1).symm.trans hP.2.2.1
    injection e with e
    injection e with e
    injection e with _ e
    injection e with _ e
    injection e with e
    injection e
  · have hP := hU.2.2 i hi
    have e := (tk_l60 hT (ty_p (ty_pi i hi)).2).symm.trans hP.2.2.2
    injection e with e
    injection e with e
    injection e with _ e
    injection e with _ e
    injection e with e
    injection e
theorem jRl (hR : jR vh V F H T) (hM : tm sc ai al az v0 vh) : (ai 240 = V ∧ az 239 = F ∧ az 241 = H) ∧ (∀ i : Nat, i < 16 → sW V (sc 1) (ls (pr_ al (60 * i)) (ai 242 i).toNat)) ∧ tQ (vO V) (sc 1).toNat sc ai al T ∧ stQ (vO V) (sc 1).toNat sc ai al T.2.2 := by
  obtain ⟨sc2, ai2, al2, az2, g1, ⟨g2, g3, g4⟩, g5, g6, g7⟩ := hR
  have e1 := un_s hM g1 (j := 1) (fun _ => rfl)
  have c0 := un_i hM g1 (a := 240) (n := 8) rfl
  have c2 := un_i hM g1 (a := 242) (n := 72) rfl
  have c3 := un_l hM g1 (a := 243) (n := 4320) rfl
  have c4 := un_l hM g1 (a := 244) (n := 4320) rfl
  have c9 := un_z hM g1 (a := 239) (n := 8) rfl
  have c1 := un_z hM g1 (a := 241) (n := 16) rfl
  refine ⟨⟨c0.trans g2, c9.trans g3, c1.trans g4⟩, fun i hi => ?_, ?_, ?_⟩
  · have h9 := g5 i hi
    have e : ls (pr_ al (60 * i)) (ai 242 i).toNat = ls (pr_ al2 (60 * i)) (ai2 242 i).toNat := by
      rw [c2]
      refine ls_cg _ fun t _ => ?_
      unfold pr_
      rw [c3, c4]
    rw [e, e1]
    exact h9
  · have q : ∀ a l, c7Q (vO V) (sc2 1).toNat ai2 al2 a l → c7Q (vO V) (sc2 1).toNat ai al a l := fun a l h => ⟨qL_cg h.1 (by rw [c2]) (fun t _ => ⟨by rw [c4], by rw [c3]⟩), h.2⟩
    obtain ⟨k1, k2, k3, k4⟩ := g6
    unfold tQ
    rw [un_s hM g1 (j := 14) (fun _ => rfl), un_s hM g1 (j := 15) (fun _ => rfl), un_s hM g1 (j := 16) (fun _ => rfl), un_s hM g1 (j := 17) (fun _ => rfl), un_s hM g1 (j := 13) (fun _ => rfl), un_s hM g1 (j := 12) (fun _ => rfl), e1]
    exact ⟨k1, k2.imp id (fun h => ⟨h.1, q _ _ h.2⟩), k3.imp id (fun h => ⟨h.1, q _ _ h.2⟩), by rw [un_l hM g1 (a := 245) (n := 8) rfl]; exact k4⟩
  · have e10 := un_s hM g1 (j := 10) (fun _ => rfl)
    have e11 := un_s hM g1 (j := 11) (fun _ => rfl)
    rw [e1]
    cases e9 : T.2.2 with
    | none =>
      rw [e9] at g7
      exact ⟨e10.trans g7.1, e11.trans g7.2⟩
    | some s =>
      rw [e9] at g7
      exact ⟨⟨e10.trans g7.1.1, e11.trans g7.1.2⟩, fun j hj => ⟨qL_cg (g7.2 j hj).1 (by rw [c2]) (fun t _ => ⟨by rw [c4], by rw [c3]⟩), (g7.2 j hj).2⟩⟩
/-- one list for each polynomial -/
theorem jU (hL : lI L xs vh n p n p t g u w) (hZ : rel5 n p u w) (hC : jC vh V F H T) (hR : jR vh V F H T) : u.1 = V ∧ ∃ U, uW n u w U := by
  have hbd := lI_b hL
  have hO := lI_u hL
  obtain ⟨Z, al, ai, az, mm, sk, hT, _, ⟨e5, _, _⟩, _⟩ := hC
  have j1 := (jl hL hT).1
  have ev : u.1 = V := by rw [← j1.2.2]; exact e5
  refine ⟨ev, ?_⟩
  have key : ∀ i : Nat, ∃ l : Po, i < 16 → (u.2.1 i = (l.length : Int) ∧ ls (fun t => (u.2.2.1 i t, u.2.2.2 i t)) l.length = l.map en) ∧ gk n.toNat l ∧ (w.1 i = (l.length : Int) ∧ w.2 i = l.map (enR (vO u.1) n.toNat)) := fun i => by
    by_cases hi : i < 16
    · have hs : sW u.1 n (w.2 i) := by
        obtain ⟨θ, sc, ai2, al2, az2, fo, ⟨_, ⟨r1, _⟩, _⟩, hc, hM, hK, hI, hR2, hS, hO2, hU, hW⟩ := hL
        have h9 := (jRl hR hM).2.1 i hi
        have h8 := hW i hi
        rw [r1, h8.1, h8.2, ← ev] at h9
        exact h9
      obtain ⟨l, q1, q2, q3⟩ := L5 hO.1 hbd.1.1 (hO.2 i hi).1 (hZ.1 i hi) (hO.2 i hi).2 hs
      exact ⟨l, fun _ => ⟨q1, q2, q3⟩⟩
    · exact ⟨[], fun h => absurd h hi⟩
  obtain ⟨U, hU⟩ := Classical.axiomOfChoice key
  exact ⟨U, fun i hi => hU i hi⟩
theorem uW_K (hu : uW n u w U) (hj : ∀ i, i < 16 → Z (7 + 3 * i) 0 = u.2.1 i ∧ al (7 + 3 * i + 1) = u.2.2.1 i ∧ al (7 + 3 * i + 2) = u.2.2.2 i) (hp : np ≤ 16) : usK n.toNat np U Z al := fun i hi => by
  obtain ⟨⟨h1, h2⟩, h3, _⟩ := hu i (by omega)
  obtain ⟨j1, j2, j3⟩ := hj i (by omega)
  exact ⟨⟨j1.trans h1, by rw [j2, j3]; exact h2⟩, h3⟩
theorem th_cg : ∀ n : Nat, (∀ i, i < n → hy i = true → U i = U1 i) → thP U hy n = thP U1 hy n := by
  intro n
  induction n with
  | zero => intro _; rfl
  | succ n ih =>
    intro h
    have e := ih fun i hi => h i (by omega)
    by_cases q : hy n = true
    · have e2 := h n (by omega) q
      by_cases q2 : U n = []
      · rw [th_n (fun z => z.2 q2), th_n (fun z => z.2 (by rw [← e2]; exact q2)), e]
      · rw [th_y ⟨q, q2⟩, th_y ⟨q, by rw [← e2]; exact q2⟩, e, e2]
    · rw [th_n (fun z => q z.1), th_n (fun z => q z.1), e]
theorem pL_u {a : Nat} (h : pL Z al a l) (h1 : pL Z al a l1) (hg : gk nv l) (hg1 : gk nv l1) (hn : nv ≤ 8) : l = l1 := by
  have e1 : l.length = l1.length := by have a1 := h.1; have a2 := h1.1; omega
  have e2 : l.map en = l1.map en := by rw [← h.2, ← h1.2, e1]
  have b64 : ∀ x : Nat × Int64, x.1 < 256 ^ nv → x.1 < 2 ^ 64 := fun x hx => Nat.lt_of_lt_of_le hx (by rw [p256]; exact Nat.pow_le_pow_right (by decide) (by omega))
  refine List.ext_getElem e1 fun i hi hj => ?_
  have e3 : (l.map en)[i]'(by rw [List.length_map]; exact hi) = (l1.map en)[i]'(by rw [List.length_map]; exact hj) := by simp only [e2]
  rw [List.getElem_map, List.getElem_map] at e3
  exact Prod.ext (on_inj (b64 _ (hg.2.2 _ (List.getElem_mem hi))) (b64 _ (hg1.2.2 _ (List.getElem_mem hj))) (show (en l[i]).1 = (en l1[i]).1 from by rw [e3])) (show (en l[i]).2 = (en l1[i]).2 from by rw [e3])
theorem sC_0 (h : Z 217 0 = 0) : stC nv np fr hy Z al mm none := h
theorem fp_0 (h : Z 230 0 = 0) : ∃ fp, pL Z al 230 fp ∧ gk nv fp := ⟨[], ⟨h, rfl⟩, ⟨⟨List.Pairwise.nil, fun x hx => absurd hx List.not_mem_nil⟩, ⟨Nat.zero_le _, fun x hx => absurd hx List.not_mem_nil⟩, fun x hx => absurd hx List.not_mem_nil⟩⟩
theorem fp_f (h : ∃ fp, pL Z al 230 fp ∧ gk nv fp) (e0 : Z1 230 = Z 230) (e1 : al1 231 = al 231) (e2 : al1 232 = al 232) : ∃ fp, pL Z1 al1 230 fp ∧ gk nv fp := by
  obtain ⟨fp, h1, h2⟩ := h
  exact ⟨fp, pL_cg h1 (by rw [e0]) (fun t _ => ⟨by rw [e1], by rw [e2]⟩), h2⟩
theorem sC_217 (h : stC nv np fr hy Z al mm o) : 0 ≤ Z 217 0 := by
  cases o with
  | none => have h : Z 217 0 = 0 := h; omega
  | some s => have h1 := h.1; omega
theorem ptE_u {f g : Nat → Int64} {i : Nat} {v : Int64} (h : ptE f g) : ptE (vp_updL f i v) (vp_updL g i v) := fun t ht => by
  by_cases e : t = i
  · subst e
    rw [up_s, up_s]
  · rw [up_o e, up_o e]
    exact h t ht
theorem vk_pt {f g : Nat → Int64} {od : Nat → Int} {key : Int64} (h : ptE f g) (ho : ∀ j, 0 ≤ od j ∧ od j < 8) : ∀ n : Nat, vkF f od key n = vkF g od key n := by
  intro n
  induction n with
  | zero => rfl
  | succ n ih =>
    have h1 := ho n
    show pwr (vkF f od key n) (f (od n).toNat) _ = pwr (vkF g od key n) (g (od n).toNat) _
    rw [ih, h _ (by omega)]
theorem vl_pt {f g : Nat → Int64} {od : Nat → Int} {K C : Nat → Int64} {n : Nat} (h : ptE f g) (ho : ∀ j, 0 ≤ od j ∧ od j < 8) : ∀ m : Nat, vlF f od n K C m = vlF g od n K C m := by
  intro m
  induction m with
  | zero => rfl
  | succ m ih =>
    show vlF f od n K C m + C m * vkF f od (K m) n = vlF g od n K C m + C m * vkF g od (K m) n
    rw [ih, vk_pt h ho]
theorem vu_pt {f g : Nat → Int64} {od : Nat → Int} {n : Nat} {l : Po} (h : ptE f g) (ho : ∀ j, 0 ≤ od j ∧ od j < 8) : vuF f od n l = vuF g od n l := vl_pt h ho _
theorem va_pt {f g : Nat → Int64} {key : Int64} (h : ptE f g) : ∀ n : Nat, n ≤ 8 → vaF f key n = vaF g key n := by
  intro n
  induction n with
  | zero => intro _; rfl
  | succ n ih =>
    intro hn
    show pwr (vaF f key n) (f n) _ = pwr (vaF g key n) (g n) _
    rw [ih (by omega), h _ (by omega)]
theorem vo_pt {f g : Nat → Int64} {K C : Nat → Int64} (h : ptE f g) : ∀ m : Nat, voF f K C m = voF g K C m := by
  intro m
  induction m with
  | zero => rfl
  | succ m ih =>
    show voF f K C m + C m * vaF f (K m) 8 = voF g K C m + C m * vaF g (K m) 8
    rw [ih, va_pt h 8 (Nat.le_refl _)]
theorem c7K_f {nv1 a : Nat} {l : Po} (h : c7K nv Z al a l) (hn : nv ≤ nv1) (e : Z1 a 0 = Z a 0) (e1 : al1 (a + 1) = al (a + 1)) (e2 : al1 (a + 2) = al (a + 2)) : c7K nv1 Z1 al1 a l := ⟨pL_cg h.1 e (fun t _ => ⟨by rw [e1], by rw [e2]⟩), gk_mono h.2 hn⟩
theorem c7K_0 {a : Nat} (e : Z a 0 = 0) : c7K nv Z al a [] := ⟨⟨e, rfl⟩, gk_nil⟩
theorem sC_f (h : stC nv np fr hy Z al mm o) (e : Z1 217 = Z 217) (hZ : ∀ b, 57 ≤ b ∧ b < 217 → Z1 b = Z b) (hA : ∀ b, 57 ≤ b ∧ b < 217 → al1 b = al b) (hu : ∀ i, i < np → hy i = true → Z1 (7 + 3 * i) 0 = Z (7 + 3 * i) 0 ∧ al1 (7 + 3 * i + 1) = al (7 + 3 * i + 1) ∧ al1 (7 + 3 * i + 2) = al (7 + 3 * i + 2)) (e1 : Z1 1 1 = Z 1 1) (e3 : Z1 1 3 = Z 1 3) (e4 : Z1 1 4 = Z 1 4) (e224 : Z1 224 0 = Z 224 0) (e225 : al1 225 = al 225) (e226 : al1 226 = al 226) : stC nv np fr hy Z1 al1 mm o := by
  cases o with
  | none =>
    have h : Z 217 0 = 0 := h
    show Z1 217 0 = 0
    rw [e]; exact h
  | some s =>
    obtain ⟨h0, ⟨h3, h4, h5⟩, U, h1, h2, h6, h7, h8⟩ := h
    exact ⟨by rw [e]; exact h0, ⟨rwK_f h3 h5 hZ hA, mbK_f h4 e, h5⟩, U, fun i hi q => ⟨pL_cg (h1 i hi q).1 (hu i hi q).1 (fun t _ => ⟨by rw [(hu i hi q).2.1], by rw [(hu i hi q).2.2]⟩), (h1 i hi q).2⟩, h2, h6, by rw [e1, e3, e4]; exact h7, c7K_f h8 (Nat.le_refl _) e224 e225 e226⟩
theorem sC_set (h : stC nv np fr hy Z al mm o) : ∃ R c B, setK fr nv R c B Z al mm := by
  cases o with
  | none => exact ⟨fun _ => [], 0, [], fun z => absurd z (by have h : Z 217 0 = 0 := h; omega)⟩
  | some s => exact ⟨s.1, s.2.1, s.2.2, fun _ => h.2.1⟩
theorem tC_f {nv1 : Nat} (h : tC nv Z al T) (hn : nv ≤ nv1) (e1 : ∀ j, j = 1 ∨ j = 3 ∨ j = 4 ∨ j = 5 → Z1 1 j = Z 1 j) (e2 : Z1 224 0 = Z 224 0) (e3 : Z1 227 0 = Z 227 0) (ea : ∀ b, b = 4 ∨ b = 225 ∨ b = 226 ∨ b = 228 ∨ b = 229 → al1 b = al b) : tC nv1 Z1 al1 T := by
  obtain ⟨⟨a1, a2, a3, a4⟩, a5, a6, a7⟩ := h
  exact ⟨⟨(e1 3 (by omega)).trans a1, (e1 1 (by omega)).trans a2, (e1 4 (by omega)).trans a3, (e1 5 (by omega)).trans a4⟩, c7K_f a5 hn e2 (ea 225 (by omega)) (ea 226 (by omega)), c7K_f a6 hn e3 (ea 228 (by omega)) (ea 229 (by omega)), by rw [ea 4 (by omega)]; exact a7⟩
theorem tC_0 {nv1 : Nat} (h : tC nv Z al T) (hn : nv ≤ nv1) (e1 : ∀ j, j = 1 ∨ j = 3 ∨ j = 4 ∨ j = 5 → Z1 1 j = Z 1 j) (e2 : Z1 224 0 = Z 224 0) (e3 : Z1 227 0 = 0) (ea : ∀ b, b = 4 ∨ b = 225 ∨ b = 226 → al1 b = al b) : tC nv1 Z1 al1 (fgT T) := by
  obtain ⟨⟨a1, a2, a3, a4⟩, a5, a6, a7⟩ := h
  exact ⟨⟨(e1 3 (by omega)).trans a1, (e1 1 (by omega)).trans a2, (e1 4 (by omega)).trans a3, (e1 5 (by omega)).trans a4⟩, c7K_f a5 hn e2 (ea 225 (by omega)) (ea 226 (by omega)), c7K_0 e3, by rw [ea 4 (by omega)]; exact a7⟩
theorem tC_m {c : Po} (h : tC nv Z al T) (e1 : ∀ j, j = 1 ∨ j = 3 ∨ j = 4 ∨ j = 5 → Z1 1 j = Z 1 j) (hc : c7K nv Z1 al1 224 c) (e3 : Z1 227 0 = 0) (ea : al1 4 = al 4) : tC nv Z1 al1 (fgC T c) := by
  obtain ⟨⟨a1, a2, a3, a4⟩, a5, a6, a7⟩ := h
  exact ⟨⟨(e1 3 (by omega)).trans a1, (e1 1 (by omega)).trans a2, (e1 4 (by omega)).trans a3, (e1 5 (by omega)).trans a4⟩, hc, c7K_0 e3, by rw [ea]; exact a7⟩
theorem fg_0 (h : fgO Z Z1 ai ai1) : (Z1 217 0 = 0 ∧ Z1 230 0 = 0) ∧ (∀ b, b ≠ 217 → b ≠ 227 → b ≠ 230 → Z1 b = Z b) ∧ ai1 5 = ai 5 ∧ Z1 227 0 = 0 := ⟨⟨by rw [h.1, u2_af (by decide), u2_af (by decide), u2_s], by rw [h.1, u2_s]⟩, fun b b1 b2 b3 => by rw [h.1, u2_af b3, u2_af b2, u2_af b1], h.2 5 (by decide), by rw [h.1, u2_af (by decide), u2_s]⟩
theorem jC_0 (hT : tk Z al ai az mm sk v0 vh) (hk : kn Z) (h1 : Z 217 0 = 0) (h2 : Z 230 0 = 0) (hH : ∀ i : Nat, Z 1 0 ≤ (i : Int) → i < 16 → az 55 i = 0) (e5 : ai 5 = V) (e3 : az 3 = F) (e55 : az 55 = H) {c : Po} (ht : tC (Z 2 0).toNat Z al (fgC T c)) : jC vh V F H (fgC T c) := ⟨Z, al, ai, az, mm, sk, tk_rf hT, hk, ⟨e5, e3, e55⟩, fp_0 h2, by rw [← e55]; exact hH, ht, h1⟩
theorem u2_u1 {α : Type} {f : Nat → Nat → α} {a i : Nat} {q : α} : u2 f a i q a = u1 (f a) i q := by
  funext j
  unfold u2 u1
  by_cases e : j = i
  · rw [if_pos ⟨rfl, e⟩, if_pos e]
  · rw [if_neg (fun z => e z.2), if_neg e]
theorem t57 : ∀ b, 57 ≤ b ∧ b < 217 → ty b ≠ 14 := t14x
theorem mvF_on {f t : Nat} (hO : onto V n) (hf : (f : Int) < n) (ht : (t : Int) < n) : onto (mvF V f t) n := ⟨mvF_b hO.1, fun v h1 h2 => by
  obtain ⟨j, j1, j2⟩ := hO.2 v h1 h2
  by_cases a : j = f
  · refine ⟨t, ht, ?_⟩
    unfold mvF
    rw [if_neg (by omega), if_neg (by omega), if_pos rfl, ← a]
    exact j2
  · by_cases b : f < j ∧ j ≤ t
    · refine ⟨j - 1, by omega, ?_⟩
      unfold mvF
      rw [if_pos (by omega), show j - 1 + 1 = j by omega]
      exact j2
    · by_cases c : t ≤ j ∧ j < f
      · refine ⟨j + 1, by omega, ?_⟩
        unfold mvF
        rw [if_neg (by omega), if_pos (by omega), show j + 1 - 1 = j by omega]
        exact j2
      · refine ⟨j, j1, ?_⟩
        unfold mvF
        rw [if_neg (by omega), if_neg (by omega), if_neg (by omega)]
        exact j2⟩
theorem oR_u (h : oR n p n2 V V1 T T1) {V2 : Nat → Int} {T2 : T7} (h2 : oR n p n2 V V2 T T2) (hO : onto V n) (h0 : 0 ≤ n ∧ n ≤ 8) : V1 = V2 ∧ T1 = T2 := by
  rcases h with ⟨⟨a1, a1t⟩, a2⟩ | ⟨f, ⟨f1, f2, f3⟩, f4, f5, f6⟩
  · rcases h2 with ⟨⟨b1, b2⟩, _⟩ | ⟨k, ⟨k1, k2, k3⟩, k4, k5⟩
    · rw [a1, b1, a1t, b2]; exact ⟨rfl, rfl⟩
    · exfalso
      rcases a2 with a2 | ⟨a3, a4⟩
      · exact a2 k4
      · have := (on_lt hO h0 (p := k) (by omega)).2 p.toNat (by omega) (by rw [k2, a4])
        omega
  · rcases h2 with ⟨b1, a2⟩ | ⟨k, ⟨k1, k2, k3⟩, k4, k5, k6⟩
    · exfalso
      rcases a2 with a2 | ⟨a3, a4⟩
      · exact a2 f4
      · have := (on_lt hO h0 (p := f) (by omega)).2 p.toNat (by omega) (by rw [f2, a4])
        omega
    · have e := (on_lt hO h0 (p := f) (by omega)).2 k (by omega) (by rw [f2, k2])
      have e2 : V1 = V2 := by rw [f5, k5, e]
      subst e2
      obtain ⟨c, c1, c2⟩ := f6
      obtain ⟨c', c1', c2'⟩ := k6
      rw [c1, c1', mvR_u (by rw [f5]; exact mvF_on hO f1 (by omega)) h0 c2 c2']
      exact ⟨rfl, rfl⟩
end JJ
section NE
variable {fr : Nat → Bool} {nv : Nat}
theorem rw_ge {B : List Nat} {had : Nat} : ∀ (n r : Nat) (R : Nat → Po) (c s : Nat), c ≤ (rwP fr nv B had n r R c s).2.2.1 := by
  intro n
  induction n with
  | zero => intro r R c s; exact Nat.le_refl _
  | succ n ih =>
    intro r R c s
    unfold rwP
    split
    · exact ih _ _ _ _
    · dsimp only
      split
      · exact Nat.le_refl _
      · split
        · exact ih _ _ _ _
        · split
          · exact Nat.le_refl _
          · split
            · exact Nat.le_refl _
            · exact Nat.le_trans (Nat.le_succ _) (ih _ _ _ _)
theorem rn_ge {R : Nat → Po} {c s : Nat} : c ≤ (rnP fr nv R c s).2.2.1 := by
  have h := rw_ge (fr := fr) (nv := nv) (B := bsP fr nv R c 8 []) (had := c) c 0 R c s
  unfold rnP
  dsimp only
  split
  · exact h
  · exact h
theorem dq_ge : ∀ (n k : Nat) (R : Nat → Po) (c s : Nat), c ≤ (dcQ fr nv n k R c s).1.2.2.1 := by
  intro n
  induction n with
  | zero => intro k R c s; exact Nat.le_refl _
  | succ n ih =>
    intro k R c s
    unfold dcQ
    split
    · exact Nat.le_trans rn_ge (ih _ _ _ _)
    · exact rn_ge
theorem de_ge {R : Nat → Po} {c : Nat} : c ≤ (deP fr nv R c).1.2.2.1 := by
  unfold deP
  split
  · exact Nat.le_refl _
  · exact dq_ge _ _ _ _ _
theorem ls_some {R : Nat → Po} : ∀ c : Nat, 1 ≤ c → ∃ r, lsP fr nv R [] c = some r := by
  intro c hc
  obtain ⟨k, rfl⟩ : ∃ k, c = k + 1 := ⟨c - 1, by omega⟩
  have h1 : ftP fr nv R [] k = true := rfl
  show ∃ r, (if ftP fr nv R [] k = true then (match lsP fr nv R [] k with
      | none => some k
      | some b => if ltP fr nv (R k) (R b) = true then some k else some b) else lsP fr nv R [] k) = some r
  rw [if_pos h1]
  split
  · exact ⟨_, rfl⟩
  · split
    · exact ⟨_, rfl⟩
    · exact ⟨_, rfl⟩
theorem bs_len {R : Nat → Po} {c : Nat} : ∀ (k : Nat) (B : List Nat), B.length ≤ (bsP fr nv R c k B).length := by
  intro k
  induction k with
  | zero => intro B; exact Nat.le_refl _
  | succ k ih =>
    intro B
    unfold bsP
    split
    · exact Nat.le_refl _
    · exact Nat.le_trans (Nat.le_succ _) (ih (_ :: B))
theorem bs_ne {R : Nat → Po} {c : Nat} (hc : 1 ≤ c) : 1 ≤ (bsP fr nv R c 8 []).length := by
  obtain ⟨r, hr⟩ := ls_some (fr := fr) (nv := nv) (R := R) c hc
  show 1 ≤ (match lsP fr nv R [] c with
    | none => []
    | some r => bsP fr nv R c 7 (r :: [])).length
  rw [hr]
  exact bs_len 7 [r]
theorem dS_ne {U : Nat → Po} {hy : Nat → Bool} {np : Nat} (h : (thP U hy np).2 ≠ 0) : 1 ≤ (dS fr nv (dT fr nv U hy np)).2.2.length := bs_ne (Nat.le_trans (by omega) de_ge)
end NE
