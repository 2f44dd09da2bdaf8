/-! The kinds of the class's cells: what stands in each, for ever. -/
def ty_L : List Nat := [0, 16, 4, 5, 6, 7, 8, 1, 2, 2, 1, 2, 2, 1, 2, 2, 1, 2, 2, 1, 2, 2, 1, 2, 2, 1, 2, 2, 1, 2, 2, 1, 2, 2, 1, 2, 2, 1, 2, 2, 1, 2, 2, 1, 2, 2, 1, 2, 2, 1, 2, 2, 1, 2, 2, 9, 10, 3, 1, 2, 2, 3, 1, 2, 2, 3, 1, 2, 2, 3, 1, 2, 2, 3, 1, 2, 2, 3, 1, 2, 2, 3, 1, 2, 2, 3, 1, 2, 2, 3, 1, 2, 2, 3, 1, 2, 2, 3, 1, 2, 2, 3, 1, 2, 2, 3, 1, 2, 2, 3, 1, 2, 2, 3, 1, 2, 2, 3, 1, 2, 2, 3, 1, 2, 2, 3, 1, 2, 2, 3, 1, 2, 2, 3, 1, 2, 2, 3, 1, 2, 2, 3, 1, 2, 2, 3, 1, 2, 2, 3, 1, 2, 2, 3, 1, 2, 2, 3, 1, 2, 2, 3, 1, 2, 2, 3, 1, 2, 2, 3, 1, 2, 2, 3, 1, 2, 2, 3, 1, 2, 2, 3, 1, 2, 2, 3, 1, 2, 2, 3, 1, 2, 2, 3, 1, 2, 2, 3, 1, 2, 2, 3, 1, 2, 2, 3, 1, 2, 2, 3, 1, 2, 2, 3, 1, 2, 2, 11, 12, 13, 14, 14, 14, 14, 1, 2, 2, 1, 2, 2, 1, 2, 2, 15, 1, 2, 2, 15]
def ty (a : Nat) : Nat := ty_L.getD a 0
/-- how many variables, how many polynomials, which are used, the rounds, how many members were ever laid -/
abbrev tc_S : Type := Int × Int × (Nat → Int32) × Int × Int
def tq (θ : tc_S) (t a : Nat) (c : Option va_E) : Prop := match t with
  | 1 => ∃ n : Int, (0 ≤ n ∧ n ≤ 60) ∧ c = some (.inr (1, [.ref (a + 1), .ref (a + 2), .int (vz n)]))
  | 2 => ∃ f : Nat → Int64, c = some (.inl (1, 60, .inr (.inl f)))
  | 3 => ∃ pl dg : Int32, c = some (.inr (2, [.ref (a + 1), .int pl, .int dg]))
  | 4 => c = some (.inr (0, [.int (vz θ.1), .ref 3, .ref 4, .ref 5]))
  | 5 => ∃ f : Nat → Int32, c = some (.inl (2, 8, .inl f))
  | 6 => ∃ f : Nat → Int64, c = some (.inl (1, 8, .inr (.inl f)))
  | 7 => ∃ f : Nat → Int, (∀ j, 0 ≤ f j ∧ f j < 8) ∧ c = some (.inl (0, 8, .inl (fun j => vz (f j))))
  | 8 => ∃ f : Nat → Option Nat, (∀ j, j < 16 → f j = some (7 + 3 * j)) ∧ c = some (.inl (3, 16, .inr (.inr (.inr (.inr f)))))
  | 9 => c = some (.inl (2, 16, .inl θ.2.2.1))
  | 10 => ∃ f : Nat → Option Nat, (∀ j, j < 40 → f j = some (57 + 4 * j)) ∧ c = some (.inl (4, 40, .inr (.inr (.inr (.inr f)))))
  | 11 => ∃ s : Int, (0 ≤ s ∧ s ≤ θ.2.2.2.2) ∧ c = some (.inr (4, [.ref 218, .int (vz s)]))
  | 12 => ∃ f : Nat → Option Nat, (∀ j : Nat, (j : Int) < θ.2.2.2.2 → ∃ b, f j = some b ∧ ty b = 3) ∧ c = some (.inl (4, 8, .inr (.inr (.inr (.inr f)))))
  | 13 => ∃ (k1 k2 k3 k4 : Nat) (s : Int), (ty k1 = 14 ∧ ty k2 = 14 ∧ ty k3 = 14 ∧ ty k4 = 14) ∧ (0 ≤ s ∧ s ≤ 3660) ∧ c = some (.inr (3, [.ref k1, .ref k2, .ref k3, .ref k4, .int (vz s)]))
  | 14 => ∃ f : Nat → Int64, c = some (.inl (1, 3660, .inr (.inl f)))
  | 15 => ∃ f : Nat → Int32, c = some (.inl (0, 8, .inl f))
  | 16 => ∃ (rc : Int) (ws ds ps : Int32), (0 ≤ rc ∧ rc ≤ 40) ∧ c = some (.inr (5, [.ref 2, .ref 6, .ref 55, .int (vz θ.2.1), .ref 56, .int (vz rc), .ref 217, .ref 219, .ref 224, .ref 227, .ref 230, .ref 233, .ref 234, .ref 237, .int ws, .int (vz θ.2.2.2.1), .int ds, .int ps]))
  | _ => True
def tc_ok (θ : tc_S) : Prop := (0 ≤ θ.1 ∧ θ.1 ≤ 8) ∧ (0 ≤ θ.2.1 ∧ θ.2.1 ≤ 16) ∧ (-2147483648 ≤ θ.2.2.2.1 ∧ θ.2.2.2.1 < 2147483648) ∧ (0 ≤ θ.2.2.2.2 ∧ θ.2.2.2.2 ≤ 8)
/-- the kinds hold, and what is of no kind is as in v0; if it is said so, the main object too, and the polynomials -/
def tc (θ : tc_S) (v0 : (Bool × Bool) × vm_H) (vh : vm_H) : Prop := tc_ok θ ∧ vh.length = v0.2.length ∧ ∀ a, (ty a = 0 ∨ (v0.1.1 = true ∧ ty a = 16) ∨ (v0.1.2 = true ∧ 5 ≤ a ∧ a < 55) → vm_at vh a = vm_at v0.2 a) ∧ tq θ (ty a) a (vm_at vh a)
theorem ty_len : ty_L.length = 238 := by decide +kernel
theorem ty_hi {a : Nat} (h : 238 ≤ a) : ty a = 0 := by
  unfold ty
  rw [List.getD_eq_getElem?_getD, List.getElem?_eq_none (by rw [ty_len]; exact h)]
  rfl
theorem ty_lo {a : Nat} (h : ty a ≠ 0) : a < 238 := by
  by_cases h1 : a < 238
  · exact h1
  · exact absurd (ty_hi (by omega)) h
theorem ty_pc : ∀ a, a < 238 → ty a = 1 → ty (a + 1) = 2 ∧ ty (a + 2) = 2 := by decide +kernel
theorem ty_rc : ∀ a, a < 238 → ty a = 3 → ty (a + 1) = 1 := by decide +kernel
theorem ty_p {a : Nat} (h : ty a = 1) : ty (a + 1) = 2 ∧ ty (a + 2) = 2 := ty_pc a (ty_lo (by rw [h]; decide)) h
theorem ty_r {a : Nat} (h : ty a = 3) : ty (a + 1) = 1 := ty_rc a (ty_lo (by rw [h]; decide)) h
theorem ty_pi : ∀ j, j < 16 → ty (7 + 3 * j) = 1 := by decide +kernel
theorem ty_ri : ∀ j, j < 40 → ty (57 + 4 * j) = 3 := by decide +kernel
/-- may be written: the polynomials aren't frozen, or it is none of them -/
def wok (v0 : (Bool × Bool) × vm_H) (a : Nat) : Prop := v0.1.2 = false ∨ 55 ≤ a
theorem wok_s {v0 : (Bool × Bool) × vm_H} {a n : Nat} (h : wok v0 a) : wok v0 (a + n) := h.imp id fun q => by omega
theorem ty_55 : ∀ a, a < 238 → ty a = 3 ∨ ty a = 14 ∨ ty a = 15 → 55 ≤ a := by decide +kernel
theorem ty_5 {a : Nat} (h : ty a = 3 ∨ ty a = 14 ∨ ty a = 15) : 55 ≤ a := ty_55 a (ty_lo (by rcases h with h | h | h <;> rw [h] <;> decide)) h
theorem wok_r {v0 : (Bool × Bool) × vm_H} {a : Nat} (h : ty a = 3) : wok v0 (a + 1) := Or.inr (by have := ty_5 (Or.inl h); omega)
section TC
variable {θ : tc_S} {v0 : (Bool × Bool) × vm_H} {vh v1 : vm_H} {a : Nat} {c : va_E}
theorem tc.at {t : Nat} (h : tc θ v0 vh) (ha : ty a = t) : tq θ t a (vm_at vh a) := by
  have h1 := (h.2.2 a).2
  rwa [ha] at h1
theorem tc.set (h : tc θ v0 vh) (hb : vm_but a vh v1) (hc : vm_at v1 a = some c) {t : Nat} (ha : ty a = t) (h0 : t ≠ 0 ∧ (t = 16 → v0.1.1 = false)) (hu : a < 5 ∨ wok v0 a) (hq : tq θ t a (some c)) : tc θ v0 v1 := by
  refine ⟨h.1, hb.1.trans h.2.1, fun b => ?_⟩
  by_cases hab : b = a
  · subst hab
    rw [hc, ha]
    refine ⟨fun q => ?_, hq⟩
    rcases q with q | q | q
    · exact absurd q h0.1
    · have h9 := h0.2 q.2
      rw [q.1] at h9
      cases h9
    · exfalso
      rcases hu with u | u | u
      · omega
      · rw [q.1] at u
        cases u
      · omega
  · rw [hb.2 b hab]
    exact h.2.2 b
theorem tc_poly (h : tc θ v0 vh) (ha : ty a = 1) : ∃ n : Int, (0 ≤ n ∧ n ≤ 60) ∧ vm_at vh a = some (.inr (1, [.ref (a + 1), .ref (a + 2), .int (vz n)])) := h.at ha
theorem tc_l60 (h : tc θ v0 vh) (ha : ty a = 2) : ∃ f : Nat → Int64, vm_at vh a = some (.inl (1, 60, .inr (.inl f))) := h.at ha
theorem tc_row (h : tc θ v0 vh) (ha : ty a = 3) : ∃ pl dg : Int, (-2147483648 ≤ pl ∧ pl < 2147483648) ∧ (-2147483648 ≤ dg ∧ dg < 2147483648) ∧ vm_at vh a = some (.inr (2, [.ref (a + 1), .int (vz pl), .int (vz dg)])) := by
  obtain ⟨pl, dg, e⟩ : tq θ 3 a (vm_at vh a) := h.at ha
  obtain ⟨p1, rfl, h1⟩ := vz_ex pl
  obtain ⟨d1, rfl, h2⟩ := vz_ex dg
  exact ⟨p1, d1, h1, h2, e⟩
theorem tc_places (h : tc θ v0 vh) : (0 ≤ θ.1 ∧ θ.1 ≤ 8) ∧ vm_at vh 2 = some (.inr (0, [.int (vz θ.1), .ref 3, .ref 4, .ref 5])) := ⟨h.1.1, h.at (a := 2) (t := 4) rfl⟩
theorem tc_free (h : tc θ v0 vh) : ∃ f : Nat → Int32, vm_at vh 3 = some (.inl (2, 8, .inl f)) := h.at (a := 3) (t := 5) rfl
theorem tc_point (h : tc θ v0 vh) : ∃ f : Nat → Int64, vm_at vh 4 = some (.inl (1, 8, .inr (.inl f))) := h.at (a := 4) (t := 6) rfl
theorem tc_vars (h : tc θ v0 vh) : ∃ f : Nat → Int, (∀ j, 0 ≤ f j ∧ f j < 8) ∧ vm_at vh 5 = some (.inl (0, 8, .inl (fun j => vz (f j)))) := h.at (a := 5) (t := 7) rfl
theorem tc_polys (h : tc θ v0 vh) : ∃ f : Nat → Option Nat, (∀ j, j < 16 → f j = some (7 + 3 * j)) ∧ vm_at vh 6 = some (.inl (3, 16, .inr (.inr (.inr (.inr f))))) := h.at (a := 6) (t := 8) rfl
theorem tc_hyps (h : tc θ v0 vh) : vm_at vh 55 = some (.inl (2, 16, .inl θ.2.2.1)) := h.at (a := 55) (t := 9) rfl
theorem tc_rows (h : tc θ v0 vh) : ∃ f : Nat → Option Nat, (∀ j, j < 40 → f j = some (57 + 4 * j)) ∧ vm_at vh 56 = some (.inl (4, 40, .inr (.inr (.inr (.inr f))))) := h.at (a := 56) (t := 10) rfl
theorem tc_tri (h : tc θ v0 vh) : ∃ s : Int, (0 ≤ s ∧ s ≤ θ.2.2.2.2 ∧ θ.2.2.2.2 ≤ 8) ∧ vm_at vh 217 = some (.inr (4, [.ref 218, .int (vz s)])) := by
  obtain ⟨s, h1, h2⟩ : tq θ 11 217 (vm_at vh 217) := h.at rfl
  exact ⟨s, ⟨h1.1, h1.2, h.1.2.2.2.2⟩, h2⟩
theorem tc_mem (h : tc θ v0 vh) : ∃ f : Nat → Option Nat, (∀ j : Nat, (j : Int) < θ.2.2.2.2 → ∃ b, f j = some b ∧ ty b = 3) ∧ vm_at vh 218 = some (.inl (4, 8, .inr (.inr (.inr (.inr f))))) := h.at (a := 218) (t := 12) rfl
theorem tc_stp (h : tc θ v0 vh) : ∃ (k1 k2 k3 k4 : Nat) (s : Int), (ty k1 = 14 ∧ ty k2 = 14 ∧ ty k3 = 14 ∧ ty k4 = 14) ∧ (0 ≤ s ∧ s ≤ 3660) ∧ vm_at vh 219 = some (.inr (3, [.ref k1, .ref k2, .ref k3, .ref k4, .int (vz s)])) := h.at (a := 219) (t := 13) rfl
theorem tc_big (h : tc θ v0 vh) (ha : ty a = 14) : ∃ f : Nat → Int64, vm_at vh a = some (.inl (1, 3660, .inr (.inl f))) := h.at ha
theorem tc_i8 (h : tc θ v0 vh) (ha : ty a = 15) : ∃ f : Nat → Int32, vm_at vh a = some (.inl (0, 8, .inl f)) := h.at ha
theorem tc_main (h : tc θ v0 vh) : ∃ rc ws ds ps : Int, (0 ≤ rc ∧ rc ≤ 40) ∧ (-2147483648 ≤ ws ∧ ws < 2147483648) ∧ (-2147483648 ≤ ds ∧ ds < 2147483648) ∧ (-2147483648 ≤ ps ∧ ps < 2147483648) ∧ (0 ≤ θ.2.1 ∧ θ.2.1 ≤ 16) ∧ (-2147483648 ≤ θ.2.2.2.1 ∧ θ.2.2.2.1 < 2147483648) ∧ vm_at vh 1 = some (.inr (5, [.ref 2, .ref 6, .ref 55, .int (vz θ.2.1), .ref 56, .int (vz rc), .ref 217, .ref 219, .ref 224, .ref 227, .ref 230, .ref 233, .ref 234, .ref 237, .int (vz ws), .int (vz θ.2.2.2.1), .int (vz ds), .int (vz ps)])) := by
  obtain ⟨rc, ws, ds, ps, h1, e⟩ : tq θ 16 1 (vm_at vh 1) := h.at rfl
  obtain ⟨w1, rfl, h2⟩ := vz_ex ws
  obtain ⟨d1, rfl, h3⟩ := vz_ex ds
  obtain ⟨p1, rfl, h4⟩ := vz_ex ps
  exact ⟨rc, w1, d1, p1, h1, h2, h3, h4, h.1.2.1, h.1.2.2.1, e⟩
theorem ts_poly (h : tc θ v0 vh) (ha : ty a = 1) {n : Int} (hn : 0 ≤ n ∧ n ≤ 60) (hw : wok v0 a) (hb : vm_but a vh v1) (hc : vm_at v1 a = some (.inr (1, [.ref (a + 1), .ref (a + 2), .int (vz n)]))) : tc θ v0 v1 := h.set hb hc ha ⟨by decide, fun q => absurd q (by decide)⟩ (Or.inr hw) ⟨n, hn, rfl⟩
theorem ts_l60 {f : Nat → Int64} (h : tc θ v0 vh) (ha : ty a = 2) (hw : wok v0 a) (hb : vm_but a vh v1) (hc : vm_at v1 a = some (.inl (1, 60, .inr (.inl f)))) : tc θ v0 v1 := h.set hb hc ha ⟨by decide, fun q => absurd q (by decide)⟩ (Or.inr hw) ⟨f, rfl⟩
theorem ts_row {pl dg : Int32} (h : tc θ v0 vh) (ha : ty a = 3) (hb : vm_but a vh v1) (hc : vm_at v1 a = some (.inr (2, [.ref (a + 1), .int pl, .int dg]))) : tc θ v0 v1 := h.set hb hc ha ⟨by decide, fun q => absurd q (by decide)⟩ (Or.inr (Or.inr (ty_5 (Or.inl ha)))) ⟨pl, dg, rfl⟩
theorem ts_free {f : Nat → Int32} (h : tc θ v0 vh) (hb : vm_but 3 vh v1) (hc : vm_at v1 3 = some (.inl (2, 8, .inl f))) : tc θ v0 v1 := h.set hb hc (t := 5) rfl ⟨by decide, fun q => absurd q (by decide)⟩ (Or.inl (by decide)) ⟨f, rfl⟩
theorem ts_point {f : Nat → Int64} (h : tc θ v0 vh) (hb : vm_but 4 vh v1) (hc : vm_at v1 4 = some (.inl (1, 8, .inr (.inl f)))) : tc θ v0 v1 := h.set hb hc (t := 6) rfl ⟨by decide, fun q => absurd q (by decide)⟩ (Or.inl (by decide)) ⟨f, rfl⟩
theorem ts_vars {f : Nat → Int} {i : Nat} {q : Int} (hu : v0.1.2 = false) (h : tc θ v0 vh) (hf : ∀ j, 0 ≤ f j ∧ f j < 8) (hq : 0 ≤ q ∧ q < 8) (hb : vm_but 5 vh v1) (hc : vm_at v1 5 = some (.inl (0, 8, .inl (upd (fun j => vz (f j)) i (vz q))))) : tc θ v0 v1 := by
  refine h.set hb hc (t := 7) rfl ⟨by decide, fun q => absurd q (by decide)⟩ (Or.inr (Or.inl hu)) ⟨fun j => if j = i then q else f j, fun j => ?_, ?_⟩
  · show 0 ≤ (if j = i then q else f j) ∧ (if j = i then q else f j) < 8
    split
    · exact hq
    · exact hf j
  · have e : upd (fun j => vz (f j)) i (vz q) = fun j => vz (if j = i then q else f j) := by
      funext j
      unfold upd
      by_cases hj : j = i
      · simp [hj]
      · simp [hj]
    rw [e]
theorem ts_tri {s : Int} (h : tc θ v0 vh) (hs : 0 ≤ s ∧ s ≤ θ.2.2.2.2) (hb : vm_but 217 vh v1) (hc : vm_at v1 217 = some (.inr (4, [.ref 218, .int (vz s)]))) : tc θ v0 v1 := h.set hb hc (t := 11) rfl ⟨by decide, fun q => absurd q (by decide)⟩ (Or.inr (Or.inr (by decide))) ⟨s, hs, rfl⟩
theorem ts_stp {k1 k2 k3 k4 : Nat} {s : Int} (h : tc θ v0 vh) (hk : ty k1 = 14 ∧ ty k2 = 14 ∧ ty k3 = 14 ∧ ty k4 = 14) (hs : 0 ≤ s ∧ s ≤ 3660) (hb : vm_but 219 vh v1) (hc : vm_at v1 219 = some (.inr (3, [.ref k1, .ref k2, .ref k3, .ref k4, .int (vz s)]))) : tc θ v0 v1 := h.set hb hc (t := 13) rfl ⟨by decide, fun q => absurd q (by decide)⟩ (Or.inr (Or.inr (by decide))) ⟨k1, k2, k3, k4, s, hk, hs, rfl⟩
theorem ts_big {f : Nat → Int64} (h : tc θ v0 vh) (ha : ty a = 14) (hb : vm_but a vh v1) (hc : vm_at v1 a = some (.inl (1, 3660, .inr (.inl f)))) : tc θ v0 v1 := h.set hb hc ha ⟨by decide, fun q => absurd q (by decide)⟩ (Or.inr (Or.inr (ty_5 (Or.inr (Or.inl ha))))) ⟨f, rfl⟩
theorem ts_i8 {f : Nat → Int32} (h : tc θ v0 vh) (ha : ty a = 15) (hb : vm_but a vh v1) (hc : vm_at v1 a = some (.inl (0, 8, .inl f))) : tc θ v0 v1 := h.set hb hc ha ⟨by decide, fun q => absurd q (by decide)⟩ (Or.inr (Or.inr (ty_5 (Or.inr (Or.inr ha))))) ⟨f, rfl⟩
theorem ts_main {rc : Int} {ws ds ps : Int32} (hz : v0.1.1 = false) (h : tc θ v0 vh) (hr : 0 ≤ rc ∧ rc ≤ 40) (hb : vm_but 1 vh v1) (hc : vm_at v1 1 = some (.inr (5, [.ref 2, .ref 6, .ref 55, .int (vz θ.2.1), .ref 56, .int (vz rc), .ref 217, .ref 219, .ref 224, .ref 227, .ref 230, .ref 233, .ref 234, .ref 237, .int ws, .int (vz θ.2.2.2.1), .int ds, .int ps]))) : tc θ v0 v1 := h.set hb hc (t := 16) rfl ⟨by decide, fun _ => hz⟩ (Or.inl (by decide)) ⟨rc, ws, ds, ps, hr, rfl⟩
theorem tc_fz (h : tc θ v0 vh) : tc θ ((true, v0.1.2), vh) vh := ⟨h.1, rfl, fun a => ⟨fun _ => rfl, (h.2.2 a).2⟩⟩
theorem tc_uf {θ1 : tc_S} (h : tc θ v0 vh) (h1 : tc θ1 ((true, v0.1.2), vh) v1) : tc θ1 v0 v1 := ⟨h1.1, h1.2.1.trans h.2.1, fun a => ⟨fun q => by
  rw [(h1.2.2 a).1 (by
    rcases q with q | q | q
    · exact Or.inl q
    · exact Or.inr (Or.inl ⟨rfl, q.2⟩)
    · exact Or.inr (Or.inr q))]
  exact (h.2.2 a).1 q, (h1.2.2 a).2⟩⟩
theorem tc_k1 {f : Bool} (h1 : tc θ ((true, f), vh) v1) : vm_at v1 1 = vm_at vh 1 := (h1.2.2 1).1 (Or.inr (Or.inl ⟨rfl, rfl⟩))
end TC
