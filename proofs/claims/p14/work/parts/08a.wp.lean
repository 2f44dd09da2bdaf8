/-! What a method comes to, backwards. Its places are told by number; what is not told may be anything. -/
abbrev vq_A : Type := List (Option Value)
def vq_ag (A : vq_A) (ls : vm_L) : Prop := ∀ (i : Nat) (v : Value), A[i]? = some (some v) → ls.lookup i = some v
abbrev vq_Q : Type := Nat → vm_L → List Value → vm_H → Prop
def vm_Wp (d w k pc : Nat) (A : vq_A) (st : List Value) (vh : vm_H) (Post : vq_Q) : Prop := ∀ ls, vq_ag A ls → ∃ fr2 vh2, vm_Go d w k (pc, ls, st) vh (fr2, vh2, 0, 0) ∧ Post fr2.1 fr2.2.1 fr2.2.2 vh2
def vm_Rp (d w j : Nat) (as : List Value) (vh : vm_H) (Post : Option Value → vm_H → Prop) : Prop := ∃ fr2 vh2 r, vm_Go d w j (0, lv_args 0 as, []) vh (fr2, vh2, 0, 0) ∧ vm_rt j fr2 = some r ∧ Post r vh2
def vq_P (k : Nat) (P : Option Value → vm_H → Prop) : vq_Q := fun pc _ st vh => ∃ r, vm_rt k (pc, [], st) = some r ∧ P r vh
/-- the cells are the same but the one at n -/
def vm_but (n : Nat) (vh vh1 : vm_H) : Prop := vh1.length = vh.length ∧ ∀ m, m ≠ n → vm_at vh1 m = vm_at vh m
def vq_ps : List Value → vq_A
  | [] => []
  | v :: r => if v.category = 2 then some v :: none :: vq_ps r else some v :: vq_ps r
theorem vq_lk {o q : Nat} {u : Value} {l : vm_L} (h : q ≠ o) : List.lookup q ((o, u) :: l) = List.lookup q l := by
  rw [List.lookup_cons]
  have h1 : (q == o) = false := by simpa using h
  rw [h1]
theorem vq_lk0 {o : Nat} {u : Value} {l : vm_L} : List.lookup o ((o, u) :: l) = some u := by
  rw [List.lookup_cons]
  simp
theorem vq_ps_ag : ∀ (as : List Value) (o i : Nat) (v : Value), (vq_ps as)[i]? = some (some v) → (lv_args o as).lookup (o + i) = some v := by
  intro as
  induction as with
  | nil => intro o i v h; simp [vq_ps] at h
  | cons u r ih =>
    intro o i v h
    simp only [vq_ps, lv_args] at h ⊢
    by_cases h2 : u.category = 2
    · rw [if_pos h2] at h ⊢
      match i, h with
      | 0, h => simp at h; subst h; exact vq_lk0
      | 1, h => simp at h
      | i + 2, h =>
        rw [vq_lk (by omega), show o + (i + 2) = o + 2 + i by omega]
        exact ih (o + 2) i v (by simpa using h)
    · rw [if_neg h2] at h ⊢
      match i, h with
      | 0, h => simp at h; subst h; exact vq_lk0
      | i + 1, h =>
        rw [vq_lk (by omega), show o + (i + 1) = o + 1 + i by omega]
        exact ih (o + 1) i v (by simpa using h)
theorem vq_app {A : vq_A} {m i : Nat} {v : Value} (h : (A ++ List.replicate m none)[i]? = some (some v)) : A[i]? = some (some v) := by
  rw [List.getElem?_append] at h
  split at h
  · exact h
  · rw [List.getElem?_replicate] at h
    split at h <;> simp at h
def vq_cut (A : vq_A) (j : Nat) : vq_A := match j with
  | 0 => A
  | i + 1 => (match A[i]? with
    | some (some u) => if u.category = 2 then A.set i none else A
    | _ => A)
def vq_p1 (A : vq_A) (j : Nat) (v : Value) : vq_A := (vq_cut A j).set j (some v)
def vq_p2 (A : vq_A) (j : Nat) (v : Value) : vq_A := ((vq_cut A j).set j (some v)).set (j + 1) none
theorem vq_cut_of {A : vq_A} {i j : Nat} {u : Value} (h : (vq_cut A j)[i]? = some (some u)) : A[i]? = some (some u) ∧ ¬ (i + 1 = j ∧ u.category = 2) := by
  cases j with
  | zero => exact ⟨h, fun q => by omega⟩
  | succ j =>
    simp only [vq_cut] at h
    split at h
    next x hx =>
      split at h
      next hc =>
        by_cases hij : j = i
        · subst hij
          rw [List.getElem?_set] at h
          simp at h
        · rw [List.getElem?_set_ne hij] at h
          exact ⟨h, fun q => by omega⟩
      next hc =>
        refine ⟨h, fun q => ?_⟩
        have e : i = j := by omega
        subst e
        rw [hx] at h
        cases h
        exact hc q.2
    next hn =>
      refine ⟨h, fun q => ?_⟩
      have e : i = j := by omega
      subst e
      exact hn u h
theorem vq_flt {i : Nat} {u : Value} {p : Nat × Value → Bool} (hp : p (i, u) = true) : ∀ ls : vm_L, ls.lookup i = some u → (ls.filter p).lookup i = some u := by
  intro ls
  induction ls with
  | nil => intro h; simp at h
  | cons q r ih =>
    intro h
    obtain ⟨a, b⟩ := q
    by_cases ha : i = a
    · subst ha
      rw [vq_lk0] at h
      cases h
      rw [List.filter_cons_of_pos hp]
      exact vq_lk0
    · rw [vq_lk ha] at h
      rw [List.filter_cons]
      split
      · rw [vq_lk ha]; exact ih h
      · exact ih h
theorem vq_ag1 {A : vq_A} {ls : vm_L} {j : Nat} {v : Value} (h : vq_ag A ls) : vq_ag (vq_p1 A j v) (vm_s1 ls j v) := by
  intro i u hu
  unfold vm_s1
  by_cases hij : i = j
  · subst hij
    unfold vq_p1 at hu
    rw [List.getElem?_set] at hu
    simp at hu
    rw [vq_lk0, hu.2]
  · unfold vq_p1 at hu
    rw [List.getElem?_set_ne (Ne.symm hij)] at hu
    obtain ⟨h1, h2⟩ := vq_cut_of hu
    rw [vq_lk hij]
    refine vq_flt ?_ ls (h i u h1)
    by_cases h3 : i + 1 = j
    · have h4 : ¬ u.category = 2 := fun q => h2 ⟨h3, q⟩
      simp [hij, h4]
    · simp [hij, h3]
theorem vq_ag2 {A : vq_A} {ls : vm_L} {j : Nat} {v : Value} (h : vq_ag A ls) : vq_ag (vq_p2 A j v) (vm_s2 ls j v) := by
  intro i u hu
  unfold vm_s2
  unfold vq_p2 at hu
  by_cases hi1 : i = j + 1
  · subst hi1
    rw [List.getElem?_set] at hu
    simp at hu
  · rw [List.getElem?_set_ne (Ne.symm hi1)] at hu
    by_cases hij : i = j
    · subst hij
      rw [List.getElem?_set] at hu
      simp at hu
      rw [vq_lk0, hu.2]
    · rw [List.getElem?_set_ne (Ne.symm hij)] at hu
      obtain ⟨h1, h2⟩ := vq_cut_of hu
      rw [vq_lk hij]
      refine vq_flt ?_ ls (h i u h1)
      by_cases h3 : i + 1 = j
      · have h4 : ¬ u.category = 2 := fun q => h2 ⟨h3, q⟩
        simp [hij, hi1, h4]
      · simp [hij, hi1, h3]
/-- fewer places are told -/
def vq_le : vq_A → vq_A → Prop
  | [], _ => True
  | none :: a, _ :: b => vq_le a b
  | some v :: a, x :: b => x = some v ∧ vq_le a b
  | none :: a, [] => vq_le a []
  | some _ :: _, [] => False
theorem vq_le_get : ∀ (A B : vq_A), vq_le A B → ∀ (i : Nat) (v : Value), A[i]? = some (some v) → B[i]? = some (some v) := by
  intro A
  induction A with
  | nil => intro B _ i v h; simp at h
  | cons a r ih =>
    intro B hle i v h
    cases B with
    | nil =>
      cases a with
      | none =>
        match i, h with
        | 0, h => simp at h
        | i + 1, h =>
          have h9 := ih [] hle i v (by simpa using h)
          simp at h9
      | some u => exact absurd hle (by simp [vq_le])
    | cons b s =>
      cases a with
      | none =>
        match i, h with
        | 0, h => simp at h
        | i + 1, h => simpa using ih s hle i v (by simpa using h)
      | some u =>
        obtain ⟨h1, h2⟩ := hle
        match i, h with
        | 0, h => simp at h; subst h; simp [h1]
        | i + 1, h => simpa using ih s h2 i v (by simpa using h)
/-! Whole numbers of 32 bits, told by an integer. -/
def vz (z : Int) : Int32 := Int32.ofInt z
theorem vz_toInt {z : Int} (h : -2147483648 ≤ z ∧ z < 2147483648) : (vz z).toInt = z := Int32.toInt_ofInt_of_le h.1 h.2
theorem vz_ex (x : Int32) : ∃ z : Int, x = vz z ∧ (-2147483648 ≤ z ∧ z < 2147483648) := ⟨x.toInt, (Int32.ofInt_toInt x).symm, Int32.le_toInt x, Int32.toInt_lt x⟩
theorem vz_inj {a b : Int} (ha : -2147483648 ≤ a ∧ a < 2147483648) (hb : -2147483648 ≤ b ∧ b < 2147483648) : vz a = vz b ↔ a = b := by
  constructor
  · intro h
    rw [← vz_toInt ha, ← vz_toInt hb, h]
  · intro h; rw [h]
theorem vz_lt {a b : Int} (ha : -2147483648 ≤ a ∧ a < 2147483648) (hb : -2147483648 ≤ b ∧ b < 2147483648) : vz a < vz b ↔ a < b := by rw [Int32.lt_iff_toInt_lt, vz_toInt ha, vz_toInt hb]
theorem vz_le {a b : Int} (ha : -2147483648 ≤ a ∧ a < 2147483648) (hb : -2147483648 ≤ b ∧ b < 2147483648) : vz a ≤ vz b ↔ a ≤ b := by rw [Int32.le_iff_toInt_le, vz_toInt ha, vz_toInt hb]
theorem vz_add (a b : Int) : vz a + vz b = vz (a + b) := (Int32.ofInt_add a b).symm
theorem vz_sub (a b : Int) : vz a - vz b = vz (a - b) := (Int32.ofInt_sub a b).symm
theorem vz_mul (a b : Int) : vz a * vz b = vz (a * b) := (Int32.ofInt_mul a b).symm
theorem vz_cl {z : Int} (h0 : 0 ≤ z) (h1 : z < 2147483648) : (vz z).toNatClampNeg = z.toNat := by
  show (vz z).toInt.toNat = z.toNat
  rw [vz_toInt ⟨by omega, h1⟩]
theorem vz_neg {z : Int} (h0 : 0 ≤ z) (h1 : z < 2147483648) : ¬ vz z < 0 := by
  have e : (0 : Int32) = vz 0 := rfl
  rw [e, vz_lt ⟨by omega, h1⟩ (by decide)]
  omega
theorem vz_out {z : Int} {n : Nat} (h0 : 0 ≤ z) (h1 : z < (n : Int)) (hn : n ≤ 2147483648) : vm_out (vz z) n = false := by
  unfold vm_out
  have h2 := vz_neg h0 (by omega)
  have h3 : ¬ n ≤ (vz z).toNatClampNeg := by rw [vz_cl h0 (by omega)]; omega
  simp [h2, h3]
theorem vz_01 {z : Int} (h0 : 0 ≤ z) (h1 : z ≤ 1) : vz z = 0 ∨ vz z = 1 := by
  have h : z = 0 ∨ z = 1 := by omega
  rcases h with rfl | rfl
  · exact Or.inl rfl
  · exact Or.inr rfl
def vq_c (cd : Jvm.ClassFile.Cond) (a b : Int) : Prop := match cd with
  | .eq => a = b
  | .ne => a ≠ b
  | .lt => a < b
  | .ge => b ≤ a
  | .gt => b < a
  | .le => a ≤ b
def vq_n (cd : Jvm.ClassFile.Cond) (a b : Int) : Prop := match cd with
  | .eq => a ≠ b
  | .ne => a = b
  | .lt => b ≤ a
  | .ge => a < b
  | .gt => a ≤ b
  | .le => b < a
theorem vq_cn {cd : Jvm.ClassFile.Cond} {a b : Int} (ha : -2147483648 ≤ a ∧ a < 2147483648) (hb : -2147483648 ≤ b ∧ b < 2147483648) : (vm_cond cd (vz a) (vz b) = true ∧ vq_c cd a b) ∨ (vm_cond cd (vz a) (vz b) = false ∧ vq_n cd a b) := by
  cases cd <;> simp only [vm_cond, vq_c, vq_n, vz_inj ha hb, vz_lt ha hb, vz_lt hb ha, vz_le ha hb, vz_le hb ha, decide_eq_true_eq, decide_eq_false_iff_not] <;> omega
