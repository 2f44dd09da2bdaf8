/-! The whole of decompose in the reference. -/
def hyR (az : Nat → Nat → Int32) : Nat → Bool := fun i => decide (az 241 i ≠ 0)
def usQ (V : Nat → Nat) (nv n : Nat) (U : Nat → Po) (ai : Nat → Nat → Int) (al : Nat → Nat → Int64) : Prop := ∀ i, i < n → qL V nv ai al i (U i) ∧ gk nv (U i)
def dK (sc sc1 : Nat → Int) (ai ai1 : Nat → Nat → Int) (al al1 : Nat → Nat → Int64) (az az1 : Nat → Nat → Int32) : Prop := (∀ j, (1 ≤ j ∧ j ≤ 9) ∨ j = 17 ∨ (19 ≤ j ∧ j < 27) → sc1 j = sc j) ∧ aK ai ai1 al al1 az az1
def cnZ (V : Nat → Nat) (nv : Nat) (o : Option Po) (sc1 : Nat → Int) (ai1 : Nat → Nat → Int) (al1 : Nat → Nat → Int64) : Prop := match o with
  | some g => sc1 13 = 1 ∧ qL V nv ai1 al1 68 g ∧ gk nv g
  | none => sc1 13 = 0
def d0 (sc sc1 : Nat → Int) : Prop := (sc1 10 = 0 ∧ sc1 11 = 0 ∧ sc1 12 = 0 ∧ sc1 18 = 0) ∧ (sc1 13 = 0 ∧ sc1 14 = 0 ∧ sc1 16 = 0 ∧ sc1 42 = 0) ∧ ∀ j, (1 ≤ j ∧ j ≤ 9) ∨ j = 17 ∨ (19 ≤ j ∧ j < 27) ∨ j = 38 → sc1 j = sc j
def fsQ (fr : Nat → Bool) (nv : Nat) (R : Nat → Po) (c : Nat) (z : Int) : Prop := (z < 0 ∧ fsP fr nv R c = none) ∨ ∃ r : Nat, r < c ∧ z = 16 + (r : Int) ∧ fsP fr nv R c = some r
def thJ (fr : Nat → Bool) (V : Nat → Nat) (nv : Nat) (U : Nat → Po) (h : Nat → Bool) (sc sc1 : Nat → Int) (ai ai1 : Nat → Nat → Int) (al al1 : Nat → Nat → Int64) (az : Nat → Nat → Int32) (x2 x3 : Int) : Prop := (sc1 42 = ((thP U h x3.toNat).2 : Int) ∧ ∀ j, j ≠ 42 → sc1 j = sc j) ∧ rwQ V nv ai1 al1 (thP U h x3.toNat).1 (thP U h x3.toNat).2 ∧ fsQ fr nv (thP U h x3.toNat).1 (thP U h x3.toNat).2 x2 ∧ aK ai ai1 al al1 az az ∧ (ai1 260 = ai 260 ∧ al1 257 = al 257 ∧ al1 258 = al 258)
abbrev Dt := Int × (Nat → Po) × Nat × Nat × Option Po
def dsR (fr : Nat → Bool) (V : Nat → Nat) (nv : Nat) (t : Dt) (k : Nat) (sc1 : Nat → Int) (ai1 : Nat → Nat → Int) (al1 : Nat → Nat → Int64) (az1 : Nat → Nat → Int32) : Prop := ((sc1 42 = (t.2.2.1 : Int) ∧ t.2.2.1 ≤ 40) ∧ (sc1 16 = (t.2.2.2.1 : Int) ∧ t.2.2.2.1 ≤ 1000) ∧ (sc1 14 = (k : Int) ∧ k ≤ 12)) ∧ (rwQ V nv ai1 al1 t.2.1 t.2.2.1 ∧ ∀ r, r < t.2.2.1 → plP fr nv (t.2.1 r) ≠ -1) ∧ (t.1 = 1 → mbQ sc1 ai1 (bsP fr nv t.2.1 t.2.2.1 8 []) t.2.2.1) ∧ tbG V nv sc1 ai1 al1 az1 [] ∧ cnZ V nv t.2.2.2.2 sc1 ai1 al1 ∧ (sc1 10 = 0 ∧ sc1 11 = 0 ∧ sc1 12 = 0 ∧ sc1 18 = 0)
def dcJ (fr : Nat → Bool) (V : Nat → Nat) (nv : Nat) (R : Nat → Po) (c : Nat) (sc sc1 : Nat → Int) (ai ai1 : Nat → Nat → Int) (al al1 : Nat → Nat → Int64) (az az1 : Nat → Nat → Int32) (x : Int) : Prop := ∃ t k, x = t.1 ∧ ((0 ≤ x ∧ x ≤ 3) ∧ (t.1 = 3 → t.2.2.2.2 = none)) ∧ dsR fr V nv t k sc1 ai1 al1 az1 ∧ deP fr nv R c = (if t.1 = 3 then dcQ fr nv (12 - k) k t.2.1 t.2.2.1 t.2.2.2.1 else (t, k)) ∧ dK sc sc1 ai ai1 al al1 az az1
/-- what decompose leaves -/
def deR (fr : Nat → Bool) (V : Nat → Nat) (nv : Nat) (t : Dt × Nat) (sc sc1 : Nat → Int) (ai ai1 : Nat → Nat → Int) (al al1 : Nat → Nat → Int64) (az az1 : Nat → Nat → Int32) : Prop := (sc1 14 = (t.2 : Int) ∧ sc1 15 = (t.1.2.2.1 : Int) ∧ sc1 16 = (t.1.2.2.2.1 : Int)) ∧ cnZ V nv t.1.2.2.2.2 sc1 ai1 al1 ∧ (t.1.1 = 1 → (sc1 10 = 1 ∧ sc1 11 = ((bsP fr nv t.1.2.1 t.1.2.2.1 8 []).length : Int)) ∧ ∀ m, m < (bsP fr nv t.1.2.1 t.1.2.2.1 8 []).length → qL V nv ai1 al1 (58 + m) (t.1.2.1 ((bsP fr nv t.1.2.1 t.1.2.2.1 8 []).reverse.getD m 0)) ∧ gk nv (t.1.2.1 ((bsP fr nv t.1.2.1 t.1.2.2.1 8 []).reverse.getD m 0))) ∧ (t.1.1 ≠ 1 → sc1 10 = 0 ∧ sc1 11 = 0) ∧ (sc1 12 = 0 ∧ sc1 18 = 0) ∧ dK sc sc1 ai ai1 al al1 az az1
section RD7
variable {fr : Nat → Bool} {V : Nat → Nat} {nv c n s k i : Nat} {R U : Nat → Po} {h : Nat → Bool} {B : List Nat} {t : Dt} {sc sc0 sc1 sc2 sc3 sc4 sc5 : Nat → Int} {ai ai1 ai2 : Nat → Nat → Int} {al al1 al2 al3 : Nat → Nat → Int64} {az az1 az2 : Nat → Nat → Int32} {f g l : Po} {v x x1 x2 x3 : Int}
theorem hyR_q {q : Int} (hz : az 241 i = vz q) (hr : -2147483648 ≤ q ∧ q < 2147483648) : hyR az i = true ↔ q ≠ 0 := by
  unfold hyR
  rw [decide_eq_true_iff, hz, Ne, Ne, show (0 : Int32) = vz 0 from rfl, vz_inj hr (by decide)]
theorem us_ne (hU : usQ V nv n U ai al) (hi : i < n) : U i ≠ [] ↔ 0 < ai 242 i := by
  rw [(hU i hi).1.1, ← List.length_pos_iff]
  omega
theorem cd_y (e : x1 = ((thP U h x2.toNat).2 : Int)) (h0 : 0 ≤ x2) (hh : h x2.toNat = true ∧ U x2.toNat ≠ []) : x1 + 1 = ((thP U h (x2 + 1).toNat).2 : Int) := by
  rw [show (x2 + 1).toNat = x2.toNat + 1 by omega, th_y hh]
  show x1 + 1 = (((thP U h x2.toNat).2 + 1 : Nat) : Int)
  omega
theorem cd_n (e : x1 = ((thP U h x2.toNat).2 : Int)) (h0 : 0 ≤ x2) (hh : ¬ (h x2.toNat = true ∧ U x2.toNat ≠ [])) : x1 + 0 = ((thP U h (x2 + 1).toNat).2 : Int) := by
  rw [show (x2 + 1).toNat = x2.toNat + 1 by omega, th_n hh]
  omega
theorem d0_i (e0 : sc0 = u1 sc 0 0) (e1 : sc1 = u1 (fgS sc0) 13 0) (e2 : sc2 = u1 sc1 14 0) (e3 : sc3 = u1 sc2 16 0) (e4 : sc4 = u1 sc3 42 0) : d0 sc sc4 := by
  subst e0 e1 e2 e3 e4
  unfold fgS
  refine ⟨⟨?_, ?_, ?_, ?_⟩, ⟨?_, ?_, ?_, ?_⟩, fun j hj => ?_⟩
  · rw [u1_o (by decide), u1_o (by decide), u1_o (by decide), u1_o (by decide), u1_o (by decide), u1_o (by decide), u1_o (by decide), u1_s]
  · rw [u1_o (by decide), u1_o (by decide), u1_o (by decide), u1_o (by decide), u1_o (by decide), u1_o (by decide), u1_s]
  · rw [u1_o (by decide), u1_o (by decide), u1_o (by decide), u1_o (by decide), u1_o (by decide), u1_s]
  · rw [u1_o (by decide), u1_o (by decide), u1_o (by decide), u1_o (by decide), u1_s]
  · rw [u1_o (by decide), u1_o (by decide), u1_o (by decide), u1_s]
  · rw [u1_o (by decide), u1_o (by decide), u1_s]
  · rw [u1_o (by decide), u1_s]
  · rw [u1_s]
  · rw [u1_o (by omega), u1_o (by omega), u1_o (by omega), u1_o (by omega), u1_o (by omega), u1_o (by omega), u1_o (by omega), u1_o (by omega), u1_o (by omega)]
theorem usQ_a (hU : usQ V nv n U ai al) (hn : n ≤ 16) (hK : tmok ai) (ha : aK ai ai1 al al1 az az1) : usQ V nv n U ai1 al1 := fun i hi => ⟨qL_cg (hU i hi).1 (ha.1.2 i (by omega)) (fun t ht => by
  have := hK.1 i
  exact ⟨ha.2.1.2 244 _ (Or.inr rfl) (by omega), ha.2.1.2 243 _ (Or.inl rfl) (by omega)⟩), (hU i hi).2⟩
theorem fs_cg {R1 : Nat → Po} : ∀ c : Nat, (∀ r, r < c → R1 r = R r) → fsP fr nv R1 c = fsP fr nv R c := by
  intro c
  induction c with
  | zero => intro _; rfl
  | succ c ih =>
    intro h9
    show (match fsP fr nv R1 c with
      | some j => some j
      | none => if plP fr nv (R1 c) = -1 then some c else none) = (match fsP fr nv R c with
      | some j => some j
      | none => if plP fr nv (R c) = -1 then some c else none)
    rw [ih fun r hr => h9 r (by omega), h9 c (by omega)]
theorem u1P_lt {r : Nat} (hr : r < c) : u1P R c g r = R r := if_neg (by omega)
theorem fsQ_n (h1 : fsQ fr nv R c x) (hz : 0 ≤ x ∨ plP fr nv g ≠ -1) : fsQ fr nv (u1P R c g) (c + 1) x := by
  have e := fs_cg (fr := fr) (nv := nv) (R := R) (R1 := u1P R c g) c fun r hr => u1P_lt hr
  have e2 : u1P R c g c = g := if_pos rfl
  rcases h1 with ⟨h2, h3⟩ | ⟨r, h2, h3, h4⟩
  · refine Or.inl ⟨h2, ?_⟩
    show (match fsP fr nv (u1P R c g) c with
      | some j => some j
      | none => if plP fr nv (u1P R c g c) = -1 then some c else none) = none
    rw [e, h3, e2]
    exact if_neg (hz.resolve_left (by omega))
  · refine Or.inr ⟨r, by omega, h3, ?_⟩
    show (match fsP fr nv (u1P R c g) c with
      | some j => some j
      | none => if plP fr nv (u1P R c g c) = -1 then some c else none) = some r
    rw [e, h4]
theorem fsQ_y (h1 : fsQ fr nv R c x) (hz : x < 0) (hp : plP fr nv g = -1) (hv : v = 16 + (c : Int)) : fsQ fr nv (u1P R c g) (c + 1) v := by
  have e := fs_cg (fr := fr) (nv := nv) (R := R) (R1 := u1P R c g) c fun r hr => u1P_lt hr
  have e2 : u1P R c g c = g := if_pos rfl
  rcases h1 with ⟨h2, h3⟩ | ⟨r, h2, h3, h4⟩
  · refine Or.inr ⟨c, by omega, hv, ?_⟩
    show (match fsP fr nv (u1P R c g) c with
      | some j => some j
      | none => if plP fr nv (u1P R c g c) = -1 then some c else none) = some c
    rw [e, h3, e2]
    exact if_pos hp
  · omega
theorem rwQ_np (h1 : rwQ V nv ai al R c) (hK : tmok ai) (hK1 : tmok ai1) (hq : cpQ V nv ai ai1 al al1 (16 + c) l) (hp : prR V nv ai1 al1 al2 (16 + c) g) (hg : gk nv g) : rwQ V nv ai1 al2 (u1P R c g) (c + 1) := fun r hr => by
  by_cases e : r = c
  · subst e
    have e1 : u1P R r g r = g := if_pos rfl
    rw [e1]
    exact ⟨hp.2.2, hg⟩
  · rw [u1P_lt (by omega)]
    exact rwQ_pr (rwQ_cp h1 hK hq (Nat.le_refl _)) hK1 hp (Nat.le_refl _) r (by omega)
theorem tj_0 (h0 : d0 sc sc1) : thJ fr V nv U h sc1 sc1 ai ai al al az (-1) 0 := ⟨⟨h0.2.1.2.2.2, fun _ _ => rfl⟩, fun r hr => absurd hr (Nat.not_lt_zero _), Or.inl ⟨by decide, rfl⟩, aK_0, rfl, rfl, rfl⟩
theorem tj_n (hJ : thJ fr V nv U h sc sc1 ai ai1 al al1 az x2 x3) (h0 : 0 ≤ x3) (hh : ¬ (h x3.toNat = true ∧ U x3.toNat ≠ [])) : thJ fr V nv U h sc sc1 ai ai1 al al1 az x2 (x3 + 1) := by
  unfold thJ
  rw [show (x3 + 1).toNat = x3.toNat + 1 by omega, th_n hh]
  exact hJ
theorem tj_y {z : Int} (hJ : thJ fr V nv U h sc sc1 ai ai1 al al1 az x2 x3) (h0 : 0 ≤ x3 ∧ x3 < 16) (hh : h x3.toNat = true ∧ U x3.toNat ≠ []) (hK : tmok ai1) (hK2 : tmok ai2) (hq : cpQ V nv ai1 ai2 al1 al2 (16 + (thP U h x3.toNat).2) (U x3.toNat)) (hp : prR V nv ai2 al2 al3 (16 + (thP U h x3.toNat).2) (prP (U x3.toNat))) (hg : gk nv (U x3.toNat)) (e : sc2 = u1 sc1 42 v) (hv : v = sc1 42 + 1) (hz : (z = x2 ∧ (0 ≤ x2 ∨ plP fr nv (prP (U x3.toNat)) ≠ -1)) ∨ (z = 16 + sc1 42 ∧ x2 < 0 ∧ plP fr nv (prP (U x3.toNat)) = -1)) : thJ fr V nv U h sc sc2 ai ai2 al al3 az z (x3 + 1) := by
  obtain ⟨⟨h1, h2⟩, h3, h4, h5, h6, h7, h8⟩ := hJ
  have hl := th_le (U := U) (h := h) x3.toNat
  unfold thJ
  rw [show (x3 + 1).toNat = x3.toNat + 1 by omega, th_y hh]
  refine ⟨⟨?_, fun j hj => by rw [e, u1_o hj]; exact h2 j hj⟩, rwQ_np h3 hK hK2 hq hp (gk_pr hg), ?_, aK_tr h5 (aK_tr (aK_cp hq (by omega)) (aK_pr hp (by omega))), ?_, ?_, ?_⟩
  · rw [e, u1_s, hv, h1]
    show _ = (((thP U h x3.toNat).2 + 1 : Nat) : Int)
    omega
  · rcases hz with ⟨z1, z2⟩ | ⟨z1, z2, z3⟩
    · rw [z1]; exact fsQ_n h4 z2
    · exact fsQ_y h4 z2 z3 (by rw [z1, h1])
  · rw [hq.1, u2_af (by decide)]; exact h6
  · rw [hp.1 257 (by decide), hq.2.1.1 257 (by decide) (by decide)]; exact h7
  · rw [hp.1 258 (by decide), hq.2.1.1 258 (by decide) (by decide)]; exact h8
theorem tj_f (hJ : thJ fr V nv U h sc sc1 ai ai1 al al1 az x2 (n : Int)) (h0 : 0 ≤ x2) : ∃ r : Nat, r < (thP U h n).2 ∧ x2 = 16 + (r : Int) ∧ fsP fr nv (thP U h n).1 (thP U h n).2 = some r ∧ qL V nv ai1 al1 (16 + r) ((thP U h n).1 r) := by
  obtain ⟨h1, h3, h4, h5⟩ := hJ
  rw [Int.toNat_natCast] at h3 h4
  rcases h4 with h9 | ⟨r, h6, h7, h8⟩
  · omega
  · exact ⟨r, h6, h7, h8, (h3 r h6).1⟩
theorem dK_a (hd : d0 sc sc1) (hJ : ∀ j, j ≠ 42 → sc2 j = sc1 j) (ha : aK ai ai1 al al1 az az1) : dK sc sc2 ai ai1 al al1 az az1 := ⟨fun j hj => by rw [hJ j (by omega), hd.2.2 j (by omega)], ha⟩
theorem dK_s {j : Nat} (h1 : dK sc sc1 ai ai1 al al1 az az1) (e : sc2 = u1 sc1 j v) (hj : ¬ ((1 ≤ j ∧ j ≤ 9) ∨ j = 17 ∨ (19 ≤ j ∧ j < 27))) : dK sc sc2 ai ai1 al al1 az az1 := ⟨fun m hm => by rw [e, u1_o (fun z => by subst z; exact hj hm)]; exact h1.1 m hm, h1.2⟩
theorem dK_r (h1 : dK sc sc1 ai ai1 al al1 az az1) (h2 : rK sc1 sc2 ai1 ai2 al1 al2 az1 az2) : dK sc sc2 ai ai2 al al2 az az2 := ⟨fun j hj => (h2.1 j (by omega)).trans (h1.1 j hj), aK_tr h1.2 h2.2⟩
theorem dK_t (h1 : dK sc sc1 ai ai1 al al1 az az1) (h2 : aK ai1 ai2 al1 al2 az1 az2) : dK sc sc1 ai ai2 al al2 az az2 := ⟨h1.1, aK_tr h1.2 h2⟩
/-- the rounds begin -/
theorem dj_0 (hd : d0 sc sc1) (hJ : thJ fr V nv U h sc1 sc2 ai ai1 al al1 az x2 (n : Int)) (hn : n ≤ 16) (hx : x2 < 0) (hG : tbG V nv sc ai al az []) (e : sc3 = u1 sc2 15 v) : dcJ fr V nv (thP U h n).1 (thP U h n).2 sc sc3 ai ai1 al al1 az az 3 := by
  obtain ⟨⟨h1, h2⟩, h3, h4, h5, h6, h7, h8⟩ := hJ
  rw [Int.toNat_natCast] at h1 h3 h4
  have hl := th_le (U := U) (h := h) n
  have hf : fsP fr nv (thP U h n).1 (thP U h n).2 = none := by
    rcases h4 with h9 | ⟨r, _, h9, _⟩
    · exact h9.2
    · omega
  have es : ∀ j, j ≠ 15 → j ≠ 42 → sc3 j = sc1 j := fun j j1 j2 => by rw [e, u1_o j1]; exact h2 j j2
  refine ⟨(3, (thP U h n).1, (thP U h n).2, 0, none), 0, rfl, ⟨by decide, fun _ => rfl⟩, ⟨⟨⟨by rw [e, u1_o (by decide)]; exact h1, by show (thP U h n).2 ≤ 40; omega⟩, ⟨(es 16 (by decide) (by decide)).trans hd.2.1.2.2.1, by show 0 ≤ 1000; omega⟩, (es 14 (by decide) (by decide)).trans hd.2.1.2.1, by omega⟩, ⟨h3, fs_all _ hf⟩, fun z => absurd z (show ¬ (3 : Int) = 1 by decide), tbG_c hG ((es 38 (by decide) (by decide)).trans (hd.2.2 38 (by omega))) h6 h7 h8, (es 13 (by decide) (by decide)).trans hd.2.1.1, (es 10 (by decide) (by decide)).trans hd.1.1, (es 11 (by decide) (by decide)).trans hd.1.2.1, (es 12 (by decide) (by decide)).trans hd.1.2.2.1, (es 18 (by decide) (by decide)).trans hd.1.2.2.2⟩, ?_, dK_s (dK_a hd h2 h5) e (by omega)⟩
  unfold deP
  rw [hf]
  rfl
/-- a round more -/
theorem dj_s {q : Int} (hS : dsR fr V nv t k sc1 ai1 al1 az1) (hn : t.1 = 3 → t.2.2.2.2 = none) (he : deP fr nv R c = (if t.1 = 3 then dcQ fr nv (12 - k) k t.2.1 t.2.2.1 t.2.2.2.1 else (t, k))) (h3 : t.1 = 3) (hk : k < 12) (hD : dK sc sc1 ai ai1 al al1 az az1) (ho : roO fr V nv t.2.1 t.2.2.1 t.2.2.2.1 sc1 sc2 ai1 ai2 al1 al2 az1 az2 q) : dcJ fr V nv R c sc sc2 ai ai2 al al2 az az2 q := by
  obtain ⟨⟨⟨m1, m2, m3⟩, m4, ⟨m5, m6⟩, m7, m8, m9⟩, hq⟩ := ho
  obtain ⟨⟨g1, g2, g3⟩, g4, g5, g6, g7, g8⟩ := hS
  rw [hn h3] at g7
  have g7 : sc1 13 = 0 := g7
  refine ⟨rnP fr nv t.2.1 t.2.2.1 t.2.2.2.1, k + 1, hq.symm, ⟨by rw [← hq]; exact rn_rng, rn_3⟩, ⟨⟨m1, m2, by rw [m3, g3.1]; omega, by omega⟩, m4, fun h1 => ?_, m7, ?_, (m9.1 10 (by omega)).trans g8.1, (m9.1 11 (by omega)).trans g8.2.1, (m9.1 12 (by omega)).trans g8.2.2.1, (m9.1 18 (by omega)).trans g8.2.2.2⟩, ?_, dK_r hD m9⟩
  · have e := rn_1 h1
    rw [e.1, e.2]
    exact m5
  · cases ho : (rnP fr nv t.2.1 t.2.2.1 t.2.2.2.1).2.2.2.2 with
    | some g => rw [ho] at m8; exact m8
    | none =>
      rw [ho] at m8
      have m8 : sc2 13 = sc1 13 := m8
      show sc2 13 = 0
      rw [m8, g7]
  · rw [he, if_pos h3, show 12 - k = (12 - (k + 1)) + 1 by omega, dcQ]
/-- the end without a set -/
theorem dj_e {q : Int} (hS : dsR fr V nv t k sc1 ai1 al1 az1) (hn : t.1 = 3 → t.2.2.2.2 = none) (he : deP fr nv R c = (if t.1 = 3 then dcQ fr nv (12 - k) k t.2.1 t.2.2.1 t.2.2.2.1 else (t, k))) (hD : dK sc sc1 ai ai1 al al1 az az1) (hx : x = t.1) (e : sc2 = u1 sc1 15 v) (hv : v = sc1 42) (h1 : x ≠ 1) (hq : (x = 3 ∧ q = 2 ∧ 12 ≤ k) ∨ (x ≠ 3 ∧ q = x)) : deR fr V nv (deP fr nv R c) sc sc2 ai ai1 al al1 az az1 ∧ (deP fr nv R c).1.1 = q := by
  obtain ⟨⟨g1, g2, g3⟩, g4, g5, g6, g7, g8⟩ := hS
  have es : ∀ j, j ≠ 15 → sc2 j = sc1 j := fun j j1 => by rw [e, u1_o j1]
  have e15 : sc2 15 = (t.2.2.1 : Int) := by rw [e, u1_s, hv]; exact g1.1
  have hD2 := dK_s hD e (by omega)
  have hz : ∀ o, cnZ V nv o sc1 ai1 al1 → cnZ V nv o sc2 ai1 al1 := fun o ho => by
    cases o with
    | some g => exact ⟨(es 13 (by decide)).trans ho.1, ho.2⟩
    | none => exact (es 13 (by decide)).trans ho
  rcases hq with ⟨v1, v2, v3⟩ | ⟨v1, v2⟩
  · have e3 : t.1 = 3 := by omega
    have e9 : deP fr nv R c = ((2, t.2.1, t.2.2.1, t.2.2.2.1, none), k) := by
      rw [he, if_pos e3, show 12 - k = 0 by omega, dcQ]
    rw [e9]
    rw [hn e3] at g7
    exact ⟨⟨⟨(es 14 (by decide)).trans g3.1, e15, (es 16 (by decide)).trans g2.1⟩, hz none g7, fun z => absurd z (show ¬ (2 : Int) = 1 by decide), fun _ => ⟨(es 10 (by decide)).trans g8.1, (es 11 (by decide)).trans g8.2.1⟩, ⟨(es 12 (by decide)).trans g8.2.2.1, (es 18 (by decide)).trans g8.2.2.2⟩, hD2⟩, v2.symm⟩
  · have e9 : deP fr nv R c = (t, k) := by rw [he, if_neg (by omega)]
    rw [e9]
    exact ⟨⟨⟨(es 14 (by decide)).trans g3.1, e15, (es 16 (by decide)).trans g2.1⟩, hz _ g7, fun z => absurd (show t.1 = 1 from z) (by omega), fun _ => ⟨(es 10 (by decide)).trans g8.1, (es 11 (by decide)).trans g8.2.1⟩, ⟨(es 12 (by decide)).trans g8.2.2.1, (es 18 (by decide)).trans g8.2.2.2⟩, hD2⟩, by rw [v2]; exact hx.symm⟩
/-- the set is laid -/
def d4I (fr : Nat → Bool) (V : Nat → Nat) (nv : Nat) (t : Dt) (k : Nat) (sc sc1 : Nat → Int) (ai ai1 : Nat → Nat → Int) (al al1 : Nat → Nat → Int64) (az az1 : Nat → Nat → Int32) (x : Int) : Prop := ((sc1 14 = (k : Int) ∧ sc1 15 = (t.2.2.1 : Int) ∧ sc1 16 = (t.2.2.2.1 : Int)) ∧ (sc1 10 = 1 ∧ sc1 11 = ((bsP fr nv t.2.1 t.2.2.1 8 []).length : Int) ∧ sc1 12 = 0 ∧ sc1 18 = 0)) ∧ cnZ V nv t.2.2.2.2 sc1 ai1 al1 ∧ ((rwQ V nv ai1 al1 t.2.1 t.2.2.1 ∧ t.2.2.1 ≤ 40) ∧ mbQ sc1 ai1 (bsP fr nv t.2.1 t.2.2.1 8 []) t.2.2.1) ∧ (∀ m : Nat, (m : Int) < x → qL V nv ai1 al1 (58 + m) (t.2.1 ((bsP fr nv t.2.1 t.2.2.1 8 []).reverse.getD m 0)) ∧ gk nv (t.2.1 ((bsP fr nv t.2.1 t.2.2.1 8 []).reverse.getD m 0))) ∧ dK sc sc1 ai ai1 al al1 az az1
theorem d4_0 {w : Int} (hS : dsR fr V nv t k sc1 ai1 al1 az1) (h1 : t.1 = 1) (hD : dK sc sc1 ai ai1 al al1 az az1) (e : sc2 = u1 sc1 15 v) (hv : v = sc1 42) (e2 : sc3 = u1 sc2 10 1) (e3 : sc4 = u1 sc3 11 w) (hw : w = sc3 40) : d4I fr V nv t k sc sc4 ai ai1 al al1 az az1 0 := by
  obtain ⟨⟨g1, g2, g3⟩, ⟨g4, g4b⟩, g5, g6, g7, g8⟩ := hS
  have g5 := g5 h1
  have es : ∀ j, j ≠ 15 → j ≠ 10 → j ≠ 11 → sc4 j = sc1 j := fun j j1 j2 j3 => by rw [e3, u1_o j3, e2, u1_o j2, e, u1_o j1]
  refine ⟨⟨⟨(es 14 (by decide) (by decide) (by decide)).trans g3.1, by rw [e3, u1_o (by decide), e2, u1_o (by decide), e, u1_s, hv]; exact g1.1, (es 16 (by decide) (by decide) (by decide)).trans g2.1⟩, by rw [e3, u1_o (by decide), e2, u1_s], ?_, (es 12 (by decide) (by decide) (by decide)).trans g8.2.2.1, (es 18 (by decide) (by decide) (by decide)).trans g8.2.2.2⟩, ?_, ⟨⟨g4, g1.2⟩, mbQ_c g5 (es 40 (by decide) (by decide) (by decide)) rfl⟩, fun m hm => by omega, dK_s (dK_s (dK_s hD e (by omega)) e2 (by omega)) e3 (by omega)⟩
  · rw [e3, u1_s, hw, e2, u1_o (by decide), e, u1_o (by decide)]
    exact g5.1.1
  · cases ho : t.2.2.2.2 with
    | some g => rw [ho] at g7; exact ⟨(es 13 (by decide) (by decide) (by decide)).trans g7.1, g7.2⟩
    | none => rw [ho] at g7; exact (es 13 (by decide) (by decide) (by decide)).trans g7
theorem d4_s (hI : d4I fr V nv t k sc sc1 ai ai1 al al1 az az1 x) (hK : tmok ai1) (h0 : 0 ≤ x ∧ x < sc1 40) (hq : cpQ V nv ai1 ai2 al1 al2 (58 + x.toNat) (t.2.1 ((bsP fr nv t.2.1 t.2.2.1 8 []).reverse.getD x.toNat 0))) : d4I fr V nv t k sc sc1 ai ai2 al al2 az az1 (x + 1) := by
  obtain ⟨g1, g2, ⟨⟨g3, g3b⟩, g4⟩, g5, g6⟩ := hI
  have hb1 := g4.1.1
  have hb2 := g4.1.2
  have hb := mq_b g4 h0
  refine ⟨g1, ?_, ⟨⟨rwQ_cp g3 hK hq (by omega), g3b⟩, mbQ_c g4 rfl (by rw [hq.1, u2_af (by decide)])⟩, fun m hm => ?_, dK_t g6 (aK_cp hq (by omega))⟩
  · cases ho : t.2.2.2.2 with
    | some g =>
      rw [ho] at g2
      have h68 := hK.1 68
      exact ⟨g2.1, qL_cg g2.2.1 (by rw [hq.1, u2_o (by omega)]) (fun t ht => ⟨hq.2.1.2 244 _ (by omega), hq.2.1.2 243 _ (by omega)⟩), g2.2.2⟩
    | none => rw [ho] at g2; exact g2
  · by_cases e : m = x.toNat
    · rw [e]; exact ⟨hq.2.2, (g3 _ hb.2).2⟩
    · have h5 := g5 m (by omega)
      have h58 := hK.1 (58 + m)
      exact ⟨qL_cg h5.1 (by rw [hq.1, u2_o (by omega)]) (fun t ht => ⟨hq.2.1.2 244 _ (by omega), hq.2.1.2 243 _ (by omega)⟩), h5.2⟩
theorem d4_e (hI : d4I fr V nv t k sc sc1 ai ai1 al al1 az az1 x) (h1 : t.1 = 1) (he : deP fr nv R c = (t, k)) (hx : x = sc1 40) : deR fr V nv (deP fr nv R c) sc sc1 ai ai1 al al1 az az1 ∧ (deP fr nv R c).1.1 = 1 := by
  obtain ⟨⟨g1, g1b⟩, g2, ⟨⟨g3, g3b⟩, g4⟩, g5, g6⟩ := hI
  have hb1 := g4.1.1
  rw [he]
  exact ⟨⟨g1, g2, fun _ => ⟨⟨g1b.1, g1b.2.1⟩, fun m hm => g5 m (by
    have hm : m < (bsP fr nv t.2.1 t.2.2.1 8 []).length := hm
    omega)⟩, fun z => absurd h1 z, g1b.2.2, g6⟩, h1⟩
/-- the end with a condition at once -/
theorem dt_e {r : Nat} (hd : d0 sc sc1) (hJ : thJ fr V nv U h sc1 sc2 ai ai1 al al1 az x2 (n : Int)) (hr : r < (thP U h n).2) (hf : fsP fr nv (thP U h n).1 (thP U h n).2 = some r) (e : sc3 = u1 sc2 15 v) (hv : v = sc2 42) (hq : cpQ V nv ai1 ai2 al1 al2 68 ((thP U h n).1 r)) (e2 : sc4 = u1 sc3 13 1) : deR fr V nv (deP fr nv (thP U h n).1 (thP U h n).2) sc sc4 ai ai2 al al2 az az ∧ (deP fr nv (thP U h n).1 (thP U h n).2).1.1 = 0 := by
  obtain ⟨⟨h1, h2⟩, h3, h4, h5, h6, h7, h8⟩ := hJ
  rw [Int.toNat_natCast] at h1 h3
  have e9 : deP fr nv (thP U h n).1 (thP U h n).2 = ((0, (thP U h n).1, (thP U h n).2, 0, some ((thP U h n).1 r)), 0) := by
    unfold deP
    rw [hf]
  have es : ∀ j, j ≠ 15 → j ≠ 42 → j ≠ 13 → sc4 j = sc1 j := fun j j1 j2 j3 => by rw [e2, u1_o j3, e, u1_o j1]; exact h2 j j2
  rw [e9]
  exact ⟨⟨⟨(es 14 (by decide) (by decide) (by decide)).trans hd.2.1.2.1, by rw [e2, u1_o (by decide), e, u1_s, hv]; exact h1, (es 16 (by decide) (by decide) (by decide)).trans hd.2.1.2.2.1⟩, ⟨by rw [e2, u1_s], hq.2.2, (h3 r hr).2⟩, fun z => absurd z (show ¬ (0 : Int) = 1 by decide), fun _ => ⟨(es 10 (by decide) (by decide) (by decide)).trans hd.1.1, (es 11 (by decide) (by decide) (by decide)).trans hd.1.2.1⟩, ⟨(es 12 (by decide) (by decide) (by decide)).trans hd.1.2.2.1, (es 18 (by decide) (by decide) (by decide)).trans hd.1.2.2.2⟩, dK_t (dK_s (dK_s (dK_a hd h2 h5) e (by omega)) e2 (by omega)) (aK_cp hq (by decide))⟩, rfl⟩
end RD7
