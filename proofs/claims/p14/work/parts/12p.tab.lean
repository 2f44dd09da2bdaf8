/-! A quotient by a common divisor is good. -/
theorem gl_div {x y : Int64} (h : gl x) (hy : y.toInt ≠ 0) (hl : y.toInt.natAbs ≤ x.toInt.natAbs) : gl (x / y) := by
  obtain ⟨h0, h1, h2⟩ := h
  have e : (x.toInt.tdiv y.toInt).natAbs = x.toInt.natAbs / y.toInt.natAbs := Int.natAbs_tdiv _ _
  have p1 : 0 < x.toInt.natAbs / y.toInt.natAbs := Nat.div_pos hl (by omega)
  have p2 : x.toInt.natAbs / y.toInt.natAbs ≤ x.toInt.natAbs := Nat.div_le_self _ _
  have q : (x / y).toInt = x.toInt.tdiv y.toInt := by
    rw [Int64.toInt_div, l_bm (by omega)]
  unfold gl
  rw [q]
  omega
theorem vz_bm {z : Int} (h : -2147483648 ≤ z ∧ z < 2147483648) : z.bmod (2 ^ 32) = z := by
  have e : (2 ^ 32 : Nat) = 4294967296 := by decide
  rw [e, Int.bmod_def]
  split <;> omega
/-! The place where a key begins to be looked for. -/
theorem sh_50 (l : Int64) : ∃ q : Int, (l.toUInt64 >>> ((vz 50).toInt64.toUInt64 &&& Int64.toUInt64 63)).toInt64.toInt32 = vz q ∧ (0 ≤ q ∧ q < 16384) := by
  have e : ((vz 50).toInt64.toUInt64 &&& Int64.toUInt64 63) = 50 := by decide
  rw [e]
  have hu : (l.toUInt64 >>> 50).toNat < 16384 := by
    rw [UInt64.toNat_shiftRight]
    have h1 := UInt64.toNat_lt l.toUInt64
    have e2 : (50 : UInt64).toNat % 64 = 50 := by decide
    rw [e2, Nat.shiftRight_eq_div_pow]
    exact Nat.div_lt_of_lt_mul (by omega)
  generalize l.toUInt64 >>> 50 = u at hu
  refine ⟨(u.toNat : Int), ?_, by omega⟩
  have e3 : u.toInt64.toInt = (u.toNat : Int) := by
    have h1 : u.toInt64.toInt = u.toBitVec.toInt := rfl
    rw [h1, BitVec.toInt_eq_toNat_bmod]
    exact l_bm (by have : u.toBitVec.toNat = u.toNat := rfl; omega)
  have e4 : u.toInt64.toInt32.toInt = (u.toNat : Int) := by
    rw [Int64.toInt_toInt32, e3, vz_bm (by omega)]
  rw [← Int32.ofInt_toInt u.toInt64.toInt32, e4]
  rfl
theorem vz_rem {a b : Int} (ha : 0 ≤ a ∧ a < 2147483648) (hb : 0 < b ∧ b < 2147483648) : vz a - vz a / vz b * vz b = vz (a % b) := by
  have ea : (vz a).toInt = a := vz_toInt (by omega)
  have eb : (vz b).toInt = b := vz_toInt (by omega)
  have h0 : 0 ≤ a / b := Int.ediv_nonneg ha.1 (by omega)
  have h1 : a / b * b ≤ a := Int.ediv_mul_le _ (by omega)
  have h2 : 0 ≤ a / b * b := Int.mul_nonneg h0 (by omega)
  have h3 : a / b ≤ a := Int.ediv_le_self _ ha.1
  have e1 : (vz a / vz b).toInt = a / b := by
    rw [Int32.toInt_div, ea, eb, Int.tdiv_eq_ediv_of_nonneg ha.1, vz_bm (by omega)]
  have e2 : vz a / vz b = vz (a / b) := by
    rw [← Int32.ofInt_toInt (vz a / vz b), e1]; rfl
  rw [e2, show vz (a / b) * vz b = vz (a / b * b) from (Int32.ofInt_mul _ _).symm, show vz a - vz (a / b * b) = vz (a - a / b * b) from (Int32.ofInt_sub _ _).symm, Int.emod_def, Int.mul_comm b]
/-! Some place is free. -/
def ffz (p : Nat → Int32) : Nat → Nat
  | 0 => 0
  | n + 1 => if p n = 0 then n else ffz p n
theorem ffz_ok (p : Nat → Int32) : ∀ n f : Nat, f < n → p f = 0 → ffz p n < n ∧ p (ffz p n) = 0 := by
  intro n
  induction n with
  | zero => intro f h; omega
  | succ n ih =>
    intro f hf h0
    unfold ffz
    by_cases q : p n = 0
    · rw [if_pos q]; exact ⟨by omega, q⟩
    · rw [if_neg q]
      have hn : f ≠ n := fun e => q (by rw [← e]; exact h0)
      have := ih f (by omega) h0
      exact ⟨by omega, this.2⟩
theorem php : ∀ (n : Nat) (p : Nat → Int), ∃ f : Nat, f ≤ n ∧ ∀ i, i < n → p i ≠ (f : Int) := by
  intro n
  induction n with
  | zero => intro p; exact ⟨0, by omega, fun i h => by omega⟩
  | succ n ih =>
    intro p
    by_cases h : ∃ i, i < n + 1 ∧ p i = ((n + 1 : Nat) : Int)
    · obtain ⟨i0, h0, h1⟩ := h
      obtain ⟨f, hf, hm⟩ := ih fun i => if i = i0 then p n else p i
      refine ⟨f, by omega, fun i hi e => ?_⟩
      by_cases q : i = i0
      · subst q
        rw [h1] at e
        omega
      · by_cases q2 : i = n
        · subst q2
          have := hm i0 (by omega)
          simp only [if_true] at this
          exact this e
        · have := hm i (by omega)
          simp only [if_neg q] at this
          exact this e
    · exact ⟨n + 1, by omega, fun i hi e => h ⟨i, hi, e⟩⟩
/-- what is gathered lies at places that are told -/
def tb (sc : Nat → Int) (ai : Nat → Nat → Int) (az : Nat → Nat → Int32) : Prop := (0 ≤ sc 38 ∧ sc 38 ≤ 8000) ∧ (∀ i : Nat, (i : Int) < sc 38 → 0 ≤ ai 260 i ∧ ai 260 i < 16384) ∧ ∀ j : Nat, az 259 j ≠ 0 → ∃ i : Nat, (i : Int) < sc 38 ∧ ai 260 i = (j : Int)
theorem tb_0 {sc : Nat → Int} {ai : Nat → Nat → Int} {al : Nat → Nat → Int64} {az : Nat → Nat → Int32} (h : gi sc ai al az) : tb sc ai az := by
  obtain ⟨_, h1, h2⟩ := h
  exact ⟨by omega, fun i hi => by omega, fun j hj => absurd (h2 j) hj⟩
theorem tb_free {sc : Nat → Int} {ai : Nat → Nat → Int} {az : Nat → Nat → Int32} (h : tb sc ai az) : ffz (az 259) 16384 < 16384 ∧ az 259 (ffz (az 259) 16384) = 0 := by
  obtain ⟨f, hf, hm⟩ := php (sc 38).toNat (ai 260)
  have h1 := h.1
  refine ffz_ok _ _ f (by omega) ?_
  by_cases q : az 259 f = 0
  · exact q
  · obtain ⟨i, hi, e⟩ := h.2.2 f q
    exact absurd e (hm i (by omega))
theorem tb_ne {p : Nat → Int32} {f : Nat} {x q : Int} (hf : p f = 0) (hp : p x.toNat = vz q) (hr : -2147483648 ≤ q ∧ q < 2147483648) (hq : q ≠ 0) (hx : 0 ≤ x) : (f : Int) ≠ x := by
  intro e
  have e1 : f = x.toNat := by omega
  rw [e1, hp] at hf
  exact hq ((vz_inj hr (by decide)).mp hf)
theorem tb_fr {X Y : List Nat} {lo hi : Nat} {sc sc1 : Nat → Int} {ai ai1 : Nat → Nat → Int} {al al1 : Nat → Nat → Int64} {az az1 : Nat → Nat → Int32} (h : tb sc ai az) (hf : fr X Y lo hi sc ai al az sc1 ai1 al1 az1) (h1 : X.contains 38 = false) (h2 : Y.contains 260 = false) (h3 : Y.contains 259 = false) : tb sc1 ai1 az1 := by
  unfold tb
  rw [hf.1 38 h1, hf.2.1 260 h2 (by decide), hf.2.2.2.2 259 h3]
  exact h
theorem tb_add {sc sc1 : Nat → Int} {ai ai1 : Nat → Nat → Int} {az az1 : Nat → Nat → Int32} {x : Int} {v : Int32} (h : tb sc ai az) (hl : sc 38 < 8000) (hx : 0 ≤ x ∧ x < 16384) (hd1 : az1 = u2 az 259 x.toNat v) (hd2 : ai1 = u2 ai 260 (sc 38).toNat x) (hd3 : sc1 = u1 sc 38 (sc 38 + 1)) : tb sc1 ai1 az1 := by
  obtain ⟨h1, h2, h3⟩ := h
  have e : sc1 38 = sc 38 + 1 := by rw [hd3]; exact u1_s
  unfold tb
  rw [e]
  refine ⟨by omega, fun i hi => ?_, fun j hj => ?_⟩
  · rw [hd2]
    by_cases q : i = (sc 38).toNat
    · rw [q, u2_s]; exact hx
    · rw [u2_o q]; exact h2 i (by omega)
  · by_cases q : j = x.toNat
    · refine ⟨(sc 38).toNat, by omega, ?_⟩
      rw [hd2, u2_s]
      omega
    · rw [hd1, u2_o q] at hj
      obtain ⟨i, hi, e2⟩ := h3 j hj
      refine ⟨i, by omega, ?_⟩
      rw [hd2, u2_o (by omega)]
      exact e2
/-- from the place i on -/
def tbk (sc : Nat → Int) (ai : Nat → Nat → Int) (az : Nat → Nat → Int32) (x : Int) : Prop := ∀ j : Nat, az 259 j ≠ 0 → ∃ i : Nat, x ≤ (i : Int) ∧ (i : Int) < sc 38 ∧ ai 260 i = (j : Int)
theorem tbk_0 {sc : Nat → Int} {ai : Nat → Nat → Int} {az : Nat → Nat → Int32} (h : tb sc ai az) : tbk sc ai az 0 := fun j hj => by
  obtain ⟨i, hi, e⟩ := h.2.2 j hj
  exact ⟨i, by omega, hi, e⟩
theorem tbk_step {sc : Nat → Int} {ai : Nat → Nat → Int} {az az1 : Nat → Nat → Int32} {x : Int} {v : Int32} (h : tbk sc ai az x) (hx : 0 ≤ x) (hv : v = 0) (hd : az1 = u2 az 259 (ai 260 x.toNat).toNat v) : tbk sc ai az1 (x + 1) := by
  intro j hj
  by_cases q : j = (ai 260 x.toNat).toNat
  · rw [hd, q, u2_s, hv] at hj
    exact absurd rfl hj
  · rw [hd, u2_o q] at hj
    obtain ⟨i, h1, h2, e⟩ := h j hj
    have : i ≠ x.toNat := fun e2 => by rw [e2] at e; omega
    exact ⟨i, by omega, h2, e⟩
theorem tbk_end {sc : Nat → Int} {ai : Nat → Nat → Int} {az : Nat → Nat → Int32} {x : Int} (h : tbk sc ai az x) (hx : sc 38 ≤ x) : ∀ j, az 259 j = 0 := fun j => by
  by_cases q : az 259 j = 0
  · exact q
  · obtain ⟨i, h1, h2, _⟩ := h j q
    omega
theorem lc_i {a b : Int64} {q : Int} (h1 : q = 0 ↔ a = b) (h2 : q < 0 ↔ a < b) : (q = 0 ↔ a.toInt = b.toInt) ∧ (q < 0 ↔ a.toInt < b.toInt) := by
  rw [h1, h2, l_lt, Int64.toInt_inj]
  exact ⟨Iff.rfl, Iff.rfl⟩
/-- the first n of a slot are good -/
def sg (al : Nat → Nat → Int64) (b : Nat) (n : Int) : Prop := ∀ t : Nat, (t : Int) < n → gl (al 243 (b + t))
theorem sg_0 (al : Nat → Nat → Int64) (b : Nat) : sg al b 0 := fun t ht => by omega
theorem sg_add {al al1 al2 : Nat → Nat → Int64} {s n : Int} {c k : Int64} (h : sg al (60 * s).toNat n) (hs : 0 ≤ s) (_ : 0 ≤ n) (hc : gl c) (hd1 : al1 = u2 al 243 (60 * s + n).toNat c) (hd2 : al2 = u2 al1 244 (60 * s + n).toNat k) : sg al2 (60 * s).toNat (n + 1) := by
  intro t ht
  rw [hd2, u2_a (by decide), hd1]
  by_cases q : (60 * s).toNat + t = (60 * s + n).toNat
  · rw [q, u2_s]; exact hc
  · rw [u2_o q]; exact h t (by omega)
