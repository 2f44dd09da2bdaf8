/-! Values; what prove and the lookers-on may change in the class. -/
def pwr (x y : Int64) : Nat → Int64
  | 0 => x
  | k + 1 => pwr x y k * y
/-- the value of a key: n places -/
def vkF (pt : Nat → Int64) (od : Nat → Int) (key : Int64) : Nat → Int64
  | 0 => Int64.ofNat 1
  | p + 1 => pwr (vkF pt od key p) (pt (od p).toNat) (pw key (p : Int)).toNat
/-- the value of a sum -/
def vlF (pt : Nat → Int64) (od : Nat → Int) (n : Nat) (K F : Nat → Int64) : Nat → Int64
  | 0 => Int64.ofNat 0
  | t + 1 => vlF pt od n K F t + F t * vkF pt od (K t) n
theorem pwr_s {x y z : Int64} {k : Int} (h0 : 0 ≤ k) (h : z = pwr x y k.toNat) : z * y = pwr x y (k + 1).toNat := by
  rw [show (k + 1).toNat = k.toNat + 1 by omega, h]
  rfl
theorem vk_s {pt : Nat → Int64} {od : Nat → Int} {key z : Int64} {p k : Int} (h0 : 0 ≤ p) (h : z = pwr (vkF pt od key p.toNat) (pt (od p.toNat).toNat) k.toNat) (e : k = pw key p) : z = vkF pt od key (p + 1).toNat := by
  rw [show (p + 1).toNat = p.toNat + 1 by omega, h, e]
  show _ = pwr (vkF pt od key p.toNat) (pt (od p.toNat).toNat) (pw key ((p.toNat : Nat) : Int)).toNat
  rw [show ((p.toNat : Nat) : Int) = p by omega]
theorem vl_s {pt : Nat → Int64} {od : Nat → Int} {n : Nat} {K F : Nat → Int64} {z w : Int64} {t : Int} (h0 : 0 ≤ t) (h : z = vlF pt od n K F t.toNat) (e : w = F t.toNat * vkF pt od (K t.toNat) n) : z + w = vlF pt od n K F (t + 1).toNat := by
  rw [show (t + 1).toNat = t.toNat + 1 by omega, h, e]
  rfl
def pvF (Z Z1 : Nat → Nat → Int) (al al1 : Nat → Nat → Int64) (ai ai1 : Nat → Nat → Int) : Prop := (∀ b, b ≠ 1 → b ≠ 219 → b ≠ 227 → b ≠ 230 → b ≠ 234 → Z1 b = Z b) ∧ (∀ j, j ≠ 2 → j ≠ 5 → Z1 1 j = Z 1 j) ∧ (∀ b, b ≠ 228 → b ≠ 229 → b ≠ 231 → b ≠ 232 → b ≠ 235 → b ≠ 236 → ty b ≠ 14 → al1 b = al b) ∧ ∀ b, b ≠ 233 → b ≠ 237 → ai1 b = ai b
/-- what looking on may change -/
def loF (Z Z1 : Nat → Nat → Int) (al al1 : Nat → Nat → Int64) : Prop := (∀ b, b ≠ 219 → b ≠ 234 → Z1 b = Z b) ∧ ∀ b, b ≠ 235 → b ≠ 236 → ty b ≠ 14 → al1 b = al b
section PV
variable {fr : Nat → Bool} {nv c n : Nat} {R U : Nat → Po} {B : List Nat} {mm : Nat → Option Nat} {Z Z1 Z2 Z3 Z4 Z5 Z6 : Nat → Nat → Int} {al al1 al2 al3 al4 : Nat → Nat → Int64} {ai ai1 ai2 : Nat → Nat → Int} {v : Int} {a : Nat}
theorem pvF_0 : pvF Z Z al al ai ai := ⟨fun _ _ _ _ _ _ => rfl, fun _ _ _ => rfl, fun _ _ _ _ _ _ _ _ => rfl, fun _ _ _ => rfl⟩
theorem pvF_tr (h : pvF Z Z1 al al1 ai ai1) (g : pvF Z1 Z2 al1 al2 ai1 ai2) : pvF Z Z2 al al2 ai ai2 := ⟨fun b b1 b2 b3 b4 b5 => (g.1 b b1 b2 b3 b4 b5).trans (h.1 b b1 b2 b3 b4 b5), fun j j1 j2 => (g.2.1 j j1 j2).trans (h.2.1 j j1 j2), fun b b1 b2 b3 b4 b5 b6 b7 => (g.2.2.1 b b1 b2 b3 b4 b5 b6 b7).trans (h.2.2.1 b b1 b2 b3 b4 b5 b6 b7), fun b b1 b2 => (g.2.2.2 b b1 b2).trans (h.2.2.2 b b1 b2)⟩
theorem pvF_Z (e : Z1 = u2 Z a 0 v) (ha : a = 227 ∨ a = 230 ∨ a = 234) : pvF Z Z1 al al ai ai := ⟨fun b _ _ b3 b4 b5 => by rw [e, u2_af (by omega)], fun j _ _ => by rw [e, u2_af (by omega)], fun _ _ _ _ _ _ _ _ => rfl, fun _ _ _ => rfl⟩
theorem pvF_m (e : Z1 = u2 Z 1 5 v) : pvF Z Z1 al al ai ai := ⟨fun b b1 _ _ _ _ => by rw [e, u2_af b1], fun j _ j2 => by rw [e, u2_o j2], fun _ _ _ _ _ _ _ _ => rfl, fun _ _ _ => rfl⟩
theorem pvF_cp {b : Nat} {m : Int} (h : cpK al al1 a b m) (ha : a = 227 ∨ a = 230 ∨ a = 234) : pvF Z Z al al1 ai ai := ⟨fun _ _ _ _ _ _ => rfl, fun _ _ _ => rfl, fun d b1 b2 b3 b4 b5 b6 _ => h.1 d (by omega) (by omega), fun _ _ _ => rfl⟩
theorem pvF_wk (h : wkF Z Z1 al al1 ai ai1) : pvF Z Z1 al al1 ai ai1 := ⟨fun b b1 b2 _ _ b5 => h.1 b b1 b2 b5, fun j j1 _ => h.2.1 j j1, fun b _ _ _ _ b5 b6 b7 => h.2.2.1 b b5 b6 b7, fun b _ b2 => h.2.2.2 b b2⟩
theorem pvF_i (h : ∀ b, b ≠ 233 → ai1 b = ai b) : pvF Z Z al al ai ai1 := ⟨fun _ _ _ _ _ _ => rfl, fun _ _ _ => rfl, fun _ _ _ _ _ _ _ _ => rfl, fun b b1 _ => h b b1⟩
theorem t14x : ∀ b, 57 ≤ b ∧ b < 217 → ty b ≠ 14 := fun b hb e => by
  have := t14 b (ty_lo (by rw [e]; decide)) e
  omega
/-- the rows stand -/
theorem rwK_f (h : rwK fr nv Z al R c) (hc : c ≤ 40) (hZ : ∀ b, 57 ≤ b ∧ b < 217 → Z1 b = Z b) (hA : ∀ b, 57 ≤ b ∧ b < 217 → al1 b = al b) : rwK fr nv Z1 al1 R c := ⟨fun r hr => by
  obtain ⟨⟨q1, q2⟩, q3, q4⟩ := h.1 r hr
  have e := hZ (57 + 4 * r) (by omega)
  exact ⟨⟨pL_cg q1 (by rw [hZ _ (by omega)]) fun t _ => ⟨by rw [hA _ (by omega)], by rw [hA _ (by omega)]⟩, q2⟩, by rw [e]; exact q3, fun z => by rw [e]; exact q4 z⟩, h.2⟩
theorem mbK_f (h : mbK Z mm B c) (e : Z1 217 = Z 217) : mbK Z1 mm B c := ⟨by rw [e]; exact h.1, h.2⟩
theorem rwK_pv (h : rwK fr nv Z al R c) (hc : c ≤ 40) (hp : pvF Z Z1 al al1 ai ai1) : rwK fr nv Z1 al1 R c := rwK_f h hc (fun b hb => hp.1 b (by omega) (by omega) (by omega) (by omega) (by omega)) (fun b hb => hp.2.2.1 b (by omega) (by omega) (by omega) (by omega) (by omega) (by omega) (t14x b hb))
theorem mbK_pv (h : mbK Z mm B c) (hp : pvF Z Z1 al al1 ai ai1) : mbK Z1 mm B c := mbK_f h (hp.1 217 (by decide) (by decide) (by decide) (by decide) (by decide))
theorem t7 : ∀ i, i < 16 → ty (7 + 3 * i + 1) ≠ 14 ∧ ty (7 + 3 * i + 2) ≠ 14 := by decide +kernel
theorem us_pv (hU : usK nv n U Z al) (hn : n ≤ 16) (hp : pvF Z Z1 al al1 ai ai1) : usK nv n U Z1 al1 := fun i hi => ⟨pL_cg (hU i hi).1 (by rw [hp.1 _ (by omega) (by omega) (by omega) (by omega) (by omega)]) (fun t _ => ⟨by rw [hp.2.2.1 _ (by omega) (by omega) (by omega) (by omega) (by omega) (by omega) (t7 i (by omega)).1], by rw [hp.2.2.1 _ (by omega) (by omega) (by omega) (by omega) (by omega) (by omega) (t7 i (by omega)).2]⟩), (hU i hi).2⟩
def pvO (fr : Nat → Bool) (nv : Nat) (R : Nat → Po) (B : List Nat) (f : Po) (Z Z1 : Nat → Nat → Int) (al al1 : Nat → Nat → Int64) (ai ai1 : Nat → Nat → Int) (q : Int) : Prop := pvF Z Z1 al al1 ai ai1 ∧ Z1 1 5 = ((rdP (mbP fr nv R B) 200 B.length f).2.1 : Int) ∧ (((rdP (mbP fr nv R B) 200 B.length f).1 = false ∧ q = 2 ∧ Z1 227 0 = 0 ∧ Z1 230 = Z 230 ∧ al1 231 = al 231 ∧ al1 232 = al 232) ∨ ((rdP (mbP fr nv R B) 200 B.length f).1 = true ∧ ((q = 1 ∧ (rdP (mbP fr nv R B) 200 B.length f).2.2 = []) ∨ (q = 0 ∧ (rdP (mbP fr nv R B) 200 B.length f).2.2 ≠ [])) ∧ (pL Z1 al1 227 (rdP (mbP fr nv R B) 200 B.length f).2.2 ∧ gk nv (rdP (mbP fr nv R B) 200 B.length f).2.2) ∧ pL Z1 al1 230 f))
theorem pv_f {f : Po} {q : Int} (h1 : pvF Z Z1 al al1 ai ai) (e27 : Z1 227 0 = 0) (e30 : Z1 230 = Z 230 ∧ al1 231 = al 231 ∧ al1 232 = al 232) (ho : rdO nv (rdP (mbP fr nv R B) 200 B.length f) Z2 al2 q) (hw : wkF Z1 Z2 al1 al2 ai ai1) (e : Z3 = u2 Z2 1 5 v) (hv : v = Z2 1 2) (hq : q = 0) : pvO fr nv R B f Z Z3 al al2 ai ai1 2 := by
  refine ⟨pvF_tr h1 (pvF_tr (pvF_wk hw) (pvF_m e)), by rw [e, u2_s, hv]; exact ho.2.2.1, Or.inl ⟨?_, rfl, ?_, ?_, ?_, ?_⟩⟩
  · cases e9 : (rdP (mbP fr nv R B) 200 B.length f).1 with
    | false => rfl
    | true =>
      have := ho.2.1.mpr e9
      omega
  · rw [e, u2_af (by decide), hw.1 227 (by decide) (by decide) (by decide)]; exact e27
  · rw [e, u2_af (by decide), hw.1 230 (by decide) (by decide) (by decide)]; exact e30.1
  · rw [hw.2.2.1 231 (by decide) (by decide) (by decide)]; exact e30.2.1
  · rw [hw.2.2.1 232 (by decide) (by decide) (by decide)]; exact e30.2.2
theorem pv_t {f : Po} {q w : Int} {i : Nat} (hi : i < 16) (h1 : pvF Z Z1 al al1 ai ai) (hL : pL Z1 al1 (7 + 3 * i) f) (ho : rdO nv (rdP (mbP fr nv R B) 200 B.length f) Z2 al2 q) (hw : wkF Z1 Z2 al1 al2 ai ai1) (e : Z3 = u2 Z2 1 5 v) (hv : v = Z2 1 2) (hq : q = 1) (c2 : cpK al2 al3 230 (7 + 3 * i) (Z3 (7 + 3 * i) 0)) (e4 : Z4 = u2 Z3 230 0 (Z3 (7 + 3 * i) 0)) (ha : ∀ b, b ≠ 233 → ai2 b = ai1 b) (c3 : cpK al3 al4 227 234 (Z4 234 0)) (e5 : Z5 = u2 Z4 227 0 (Z4 234 0)) (hz : (w = 1 ∧ Z5 227 0 = 0) ∨ (w = 0 ∧ Z5 227 0 ≠ 0)) : pvO fr nv R B f Z Z5 al al4 ai ai2 w := by
  have hr : (rdP (mbP fr nv R B) 200 B.length f).1 = true := ho.2.1.mp hq
  have hg := ho.2.2.2 hq
  have hp3 : pvF Z Z3 al al2 ai ai1 := pvF_tr h1 (pvF_tr (pvF_wk hw) (pvF_m e))
  have hL3 : pL Z3 al2 (7 + 3 * i) f := by
    have hx : pvF Z1 Z3 al1 al2 ai ai1 := pvF_tr (pvF_wk hw) (pvF_m e)
    exact pL_cg hL (by rw [hx.1 _ (by omega) (by omega) (by omega) (by omega) (by omega)]) (fun t _ => ⟨by rw [hx.2.2.1 _ (by omega) (by omega) (by omega) (by omega) (by omega) (by omega) (t7 i hi).1], by rw [hx.2.2.1 _ (by omega) (by omega) (by omega) (by omega) (by omega) (by omega) (t7 i hi).2]⟩)
  have hW3 : pL Z3 al2 234 (rdP (mbP fr nv R B) 200 B.length f).2.2 := pL_cg hg.1 (by rw [e, u2_af (by decide)]) fun _ _ => ⟨rfl, rfl⟩
  have hP4 : pL Z4 al3 230 f := pL_cp hL3 (by rw [e4, u2_s]) c2
  have hW4 : pL Z4 al3 234 (rdP (mbP fr nv R B) 200 B.length f).2.2 := pL_cg hW3 (by rw [e4, u2_af (by decide)]) fun t _ => ⟨by rw [c2.1 _ (by decide) (by decide)], by rw [c2.1 _ (by decide) (by decide)]⟩
  have hR5 : pL Z5 al4 227 (rdP (mbP fr nv R B) 200 B.length f).2.2 := pL_cp hW4 (by rw [e5, u2_s]) c3
  have hP5 : pL Z5 al4 230 f := pL_cg hP4 (by rw [e5, u2_af (by decide)]) fun t _ => ⟨by rw [c3.1 _ (by decide) (by decide)], by rw [c3.1 _ (by decide) (by decide)]⟩
  refine ⟨pvF_tr hp3 (pvF_tr (pvF_cp c2 (by omega)) (pvF_tr (pvF_Z e4 (by omega)) (pvF_tr (pvF_i ha) (pvF_tr (pvF_cp c3 (by omega)) (pvF_Z e5 (by omega)))))), ?_, Or.inr ⟨hr, ?_, ⟨hR5, hg.2⟩, hP5⟩⟩
  · rw [e5, u2_af (by decide), e4, u2_af (by decide), e, u2_s, hv]; exact ho.2.2.1
  · have h5 := hR5.1
    rcases hz with ⟨z1, z2⟩ | ⟨z1, z2⟩
    · exact Or.inl ⟨z1, List.eq_nil_of_length_eq_zero (by omega)⟩
    · exact Or.inr ⟨z1, fun z => by rw [z] at h5; exact z2 h5⟩
theorem loF_0 : loF Z Z al al := ⟨fun _ _ _ => rfl, fun _ _ _ _ => rfl⟩
theorem loF_tr (h : loF Z Z1 al al1) (g : loF Z1 Z2 al1 al2) : loF Z Z2 al al2 := ⟨fun b b1 b2 => (g.1 b b1 b2).trans (h.1 b b1 b2), fun b b1 b2 b3 => (g.2 b b1 b2 b3).trans (h.2 b b1 b2 b3)⟩
theorem loF_cp {b : Nat} {m : Int} (h : cpK al al1 234 b m) (e : Z1 = u2 Z 234 0 v) : loF Z Z1 al al1 := ⟨fun b _ b2 => by rw [e, u2_af b2], fun b b1 b2 _ => h.1 b (by omega) (by omega)⟩
theorem loF_st {f b : Po} {p d e : Nat} {q : Int} (h : stO nv f b p d e Z Z1 al al1 234 q) : loF Z Z1 al al1 := ⟨fun b b1 b2 => h.1 b b1 b2, fun b b1 b2 b3 => h.2.1 b b3 (by omega) (by omega)⟩
theorem rwK_lo (h : rwK fr nv Z al R c) (hc : c ≤ 40) (hl : loF Z Z1 al al1) : rwK fr nv Z1 al1 R c := rwK_f h hc (fun b hb => hl.1 b (by omega) (by omega)) (fun b hb => hl.2 b (by omega) (by omega) (t14x b hb))
theorem mbK_lo (h : mbK Z mm B c) (hl : loF Z Z1 al al1) : mbK Z1 mm B c := mbK_f h (hl.1 217 (by decide) (by decide))
/-- the class's set, where it has one -/
def setK (fr : Nat → Bool) (nv : Nat) (R : Nat → Po) (c : Nat) (B : List Nat) (Z : Nat → Nat → Int) (al : Nat → Nat → Int64) (mm : Nat → Option Nat) : Prop := 0 < Z 217 0 → rwK fr nv Z al R c ∧ mbK Z mm B c ∧ c ≤ 40
end PV
