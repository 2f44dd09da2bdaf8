/-! The heap that stands for the numbered cells, and what a step of the numbered machine says of the JVM's. -/
def vm_lm (bs b : Nat) (ls : vm_L) : vm_L := ls.map (fun q => (q.1, vm_rv bs b q.2))
def vm_R (D : va_G) (ct : Nat → ClassId) (bs b L : Nat) (xs : Nat → Int32) (vh : vm_H) (U : State) (H : Heap) : Prop :=
  H.size + 1 = b + vh.length ∧ vh[0]? = some (some (.inl (0, L, .inl xs))) ∧ bs < b ∧ va_X bs L xs U H ∧ ∀ (n : Nat) (c : va_E), vh[n + 1]? = some (some c) → va_at D vm_cls (b + n, vm_re ct bs b c) H
theorem vm_lk {ls : vm_L} {i : Nat} {v : Value} (h : ls.lookup i = some v) : (i, v) ∈ ls := by
  induction ls with
  | nil => simp [List.lookup] at h
  | cons q r ih =>
    obtain ⟨j, w⟩ := q
    rw [List.lookup_cons] at h
    split at h
    next he =>
      have e1 : i = j := by simpa using he
      cases h
      rw [e1]
      exact List.mem_cons_self
    next => exact List.mem_cons_of_mem _ (ih h)
theorem vm_cat (bs b : Nat) (v : Value) : (vm_rv bs b v).category = v.category := by cases v <;> rfl
theorem vm_lget {la : Array Slot} {nL bs b i : Nat} {ls : vm_L} {v : Value} (h : lv_has la nL (vm_lm bs b ls)) (h2 : ls.lookup i = some v) : la[i]? = some (.val (vm_rv bs b v)) :=
  h.2.2 (i, vm_rv bs b v) (List.mem_map.mpr ⟨(i, v), vm_lk h2, rfl⟩)
theorem vm_lmem {bs b i : Nat} {ls : vm_L} {v : Value} (h2 : ls.lookup i = some v) : ∃ k : Nat, (vm_lm bs b ls)[k]? = some (i, vm_rv bs b v) :=
  List.getElem?_of_mem (List.mem_map.mpr ⟨(i, v), vm_lk h2, rfl⟩)
theorem vm_lm_s1 (bs b i : Nat) (ls : vm_L) (v : Value) : (i, vm_rv bs b v) :: (vm_lm bs b ls).filter (fun q => !(q.1 == i) && !(q.1 + 1 == i && q.2.category == 2)) = vm_lm bs b (vm_s1 ls i v) := by
  simp only [vm_lm, vm_s1, List.map_cons, List.filter_map, Function.comp_def, vm_cat]
theorem vm_lm_s2 (bs b i : Nat) (ls : vm_L) (v : Value) : (i, vm_rv bs b v) :: (vm_lm bs b ls).filter (fun q => !(q.1 == i) && (!(q.1 == i + 1) && !(q.1 + 1 == i && q.2.category == 2))) = vm_lm bs b (vm_s2 ls i v) := by
  simp only [vm_lm, vm_s2, List.map_cons, List.filter_map, Function.comp_def, vm_cat]
theorem vm_at_some {vh : vm_H} {n : Nat} {c : va_E} (h : vm_at vh n = some c) : vh[n]? = some (some c) := by
  unfold vm_at at h
  split at h
  next q hq => cases h; exact hq
  next => cases h
theorem vm_at_lt {vh : vm_H} {n : Nat} {c : va_E} (h : vm_at vh n = some c) : n < vh.length := (List.getElem?_eq_some_iff.mp (vm_at_some h)).1
theorem vm_ra_inj {bs b x y : Nat} (hb : bs < b) (h : vm_ra bs b x = vm_ra bs b y) : x = y := by
  unfold vm_ra at h
  cases x <;> cases y <;> simp at h <;> omega
theorem vm_R.cell {D : va_G} {ct : Nat → ClassId} {bs b L : Nat} {xs : Nat → Int32} {vh : vm_H} {U : State} {H : Heap} (h : vm_R D ct bs b L xs vh U H) {n : Nat} {c : va_E} (hn : n ≠ 0) (hc : vm_at vh n = some c) : va_at D vm_cls (vm_ra bs b n, vm_re ct bs b c) H := by
  cases n with
  | zero => exact absurd rfl hn
  | succ j => exact h.2.2.2.2 j c (vm_at_some hc)
theorem vm_R.ne0 {D : va_G} {ct : Nat → ClassId} {bs b L : Nat} {xs : Nat → Int32} {vh : vm_H} {U : State} {H : Heap} (h : vm_R D ct bs b L xs vh U H) {n : Nat} {c : va_E} (hc : vm_at vh n = some c) (hx : c ≠ .inl (0, L, .inl xs)) : n ≠ 0 := by
  intro e
  subst e
  have h1 := vm_at_some hc
  rw [h.2.1] at h1
  cases h1
  exact hx rfl
theorem vm_R.ge {D : va_G} {ct : Nat → ClassId} {bs b L : Nat} {xs : Nat → Int32} {vh : vm_H} {U : State} {H : Heap} (h : vm_R D ct bs b L xs vh U H) {n : Nat} (hn : n ≠ 0) : b ≤ vm_ra bs b n := by
  cases n with
  | zero => exact absurd rfl hn
  | succ j => exact Nat.le_add_right b j
theorem vm_R.put {D : va_G} {ct : Nat → ClassId} {bs b L : Nat} {xs : Nat → Int32} {vh : vm_H} {U : State} {H H1 : Heap} (h : vm_R D ct bs b L xs vh U H) {n : Nat} {c : va_E} (hn : n ≠ 0) (hl : n < vh.length) (hz : H1.size = H.size)
    (hq : ∀ q : Nat, q ≠ vm_ra bs b n → H1[q]? = H[q]?) (hc : va_at D vm_cls (vm_ra bs b n, vm_re ct bs b c) H1) : vm_R D ct bs b L xs (vh.set n (some c)) U H1 := by
  obtain ⟨h1, h2, h3, h4, h5⟩ := h
  cases n with
  | zero => exact absurd rfl hn
  | succ j =>
    refine ⟨by rw [hz, List.length_set]; exact h1, by rw [List.getElem?_set_ne (by omega)]; exact h2, h3, h4.kept (hq bs (by show bs ≠ b + j; omega)), fun i d hd => ?_⟩
    by_cases hij : i = j
    · subst hij
      rw [List.getElem?_set_self (by exact hl)] at hd
      cases hd
      exact hc
    · rw [List.getElem?_set_ne (by omega)] at hd
      exact (h5 i d hd).kept (hq (b + i) (by show b + i ≠ b + j; omega))
theorem vm_R.push {D : va_G} {ct : Nat → ClassId} {bs b L : Nat} {xs : Nat → Int32} {vh : vm_H} {U : State} {H H1 : Heap} (h : vm_R D ct bs b L xs vh U H) {c : va_E} (hz : H1.size = H.size + 1)
    (hq : ∀ q : Nat, q < H.size → H1[q]? = H[q]?) (hc : va_at D vm_cls (H.size, vm_re ct bs b c) H1) : vm_R D ct bs b L xs (vh ++ [some c]) U H1 ∧ vm_ra bs b vh.length = H.size := by
  obtain ⟨h1, h2, h3, h4, h5⟩ := h
  have hl : 0 < vh.length := (List.getElem?_eq_some_iff.mp h2).1
  obtain ⟨k, hk⟩ : ∃ k, vh.length = k + 1 := ⟨vh.length - 1, by omega⟩
  have hra : vm_ra bs b vh.length = H.size := by rw [hk]; show b + k = H.size; omega
  refine ⟨⟨by rw [hz, List.length_append, List.length_singleton]; omega, by rw [List.getElem?_append_left hl]; exact h2, h3, h4.kept (hq bs (by omega)), fun i d hd => ?_⟩, hra⟩
  by_cases hi : i + 1 < vh.length
  · rw [List.getElem?_append_left hi] at hd
    exact (h5 i d hd).kept (hq (b + i) (by omega))
  · rw [List.getElem?_append_right (by omega)] at hd
    have hz2 : i + 1 - vh.length < 1 := (List.getElem?_eq_some_iff.mp hd).1
    rw [show i + 1 - vh.length = 0 by omega] at hd
    cases hd
    rw [show b + i = H.size by omega]
    exact hc
theorem vm_R.moved {D : va_G} {ct : Nat → ClassId} {bs b L : Nat} {xs : Nat → Int32} {vh : vm_H} {u U : State} {H : Heap} (hvm : u.vm.Alike U.vm) (h : vm_R D ct bs b L xs vh u H) : vm_R D ct bs b L xs vh U H := ⟨h.1, h.2.1, h.2.2.1, h.2.2.2.1.moved hvm, h.2.2.2.2⟩
theorem vm_R.lo {D : va_G} {ct : Nat → ClassId} {bs b L : Nat} {xs : Nat → Int32} {vh : vm_H} {U : State} {H : Heap} (h : vm_R D ct bs b L xs vh U H) : b ≤ H.size ∧ bs < H.size := by
  have hl : 0 < vh.length := (List.getElem?_eq_some_iff.mp h.2.1).1
  have h1 := h.1
  have h3 := h.2.2.1
  omega
theorem vm_okv_n {ty : FieldType} {v : Value} (bs b : Nat) (h : vm_okv ty v = true) : narrow ty (vm_rv bs b v) = vm_rv bs b v ∧ fits ty (vm_rv bs b v) = true := by
  unfold vm_okv at h
  split at h
  next x =>
    have h1 : x = 0 ∨ x = 1 := by simpa using h
    rcases h1 with rfl | rfl <;> exact ⟨rfl, rfl⟩
  all_goals first | exact ⟨rfl, rfl⟩ | (cases h; done)
theorem vm_rv_dv (bs b : Nat) (ty : FieldType) : vm_rv bs b (defaultValue ty) = defaultValue ty := by cases ty <;> rfl
theorem vm_out_in {i : Int32} {n : Nat} (h : vm_out i n = false) : vp_in i n := by
  intro q
  unfold vm_out at h
  rcases q with q | q <;> simp [q] at h
/-- what the tables say of the numbered kinds, and of the words that are not carried -/
def vm_tys (ct : Nat → ClassId) : List (ClassId × FieldType) := [(ct 0, .int), (ct 1, .long), (ct 2, .boolean), (ct 3, .object vm_e3), (ct 4, .object vm_e4)]
def vm_K (D : va_G) (ct : Nat → ClassId) (U : State) : Prop := va_K D vm_cls (vm_tys ct) U ∧ va_AO vm_e3 U ∧ va_AO vm_e4 U ∧ ∀ w ∈ vm_nw, va_Nw w U
def vm_C (p : Program) (s : State) (m : MethodId) (args : Array Value) (meth : Method) (c : Code) (D : va_G) (ct : Nat → ClassId) (k : Nat) : Prop :=
  p.tables.exec = Jvm.exec ∧ c.code = vm_code k ∧ c.maxLocals = vm_max k ∧ meth.sig.returnType = vm_ret k ∧ meth.locks = false ∧ meth.name = (vm_name k).name ∧ s.vm.findClass (vm_name k).cls = some m.cls ∧ (∀ w ∈ vm_ws, w.before args s = true) ∧ vm_K D ct s
/-- where a step goes on -/
def vm_On (p : Program) (l : Launch) (e : Env) (R : Room) (s : State) (m : MethodId) (args : Array Value) (below : List Frame) (meth : Method) (c : Code) (Q : State → Prop) (D : va_G) (ct : Nat → ClassId) (bs b L : Nat) (xs : Nat → Int32) (mx : Nat) (fr : vm_F) (vh : vm_H) (cells slots : Nat) : Prop :=
  ∀ (H : Heap) (locs : List Loc) (la : Array Slot), vm_R D ct bs b L xs vh s H → va_S (fun q => b ≤ q) s.heap H locs → lv_has la mx (vm_lm bs b fr.2.1) → W p l e R s m args below meth c H locs cells slots Q (F0 m fr.1 la (fr.2.2.map (vm_rv bs b)))
