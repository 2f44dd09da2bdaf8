theorem vm_has_in {z : Nat} {w : Cond} (h : vm_has z w = true) : w ∈ vm_ws := by
  unfold vm_has at h
  split at h
  next v hv =>
    rw [Bool.and_eq_true] at h
    have e : v = w := of_decide_eq_true h.1
    subst e
    exact List.mem_filter.mpr ⟨List.mem_of_getElem? hv, h.2⟩
  next => cases h
theorem vm_hasN_in {z : Nat} {w : Cond} (h : vm_hasN z w = true) : w ∈ vm_nw := by
  unfold vm_hasN at h
  split at h
  next v hv =>
    rw [Bool.and_eq_true] at h
    have e : v = w := of_decide_eq_true h.1
    subst e
    exact List.mem_filter.mpr ⟨List.mem_of_getElem? hv, h.2⟩
  next => cases h
theorem vm_arI : Cond.arrayClass (newarray.typeOf .int) ∈ vm_ws := vm_has_in vm_arI0
theorem vm_arL : Cond.arrayClass (newarray.typeOf .long) ∈ vm_ws := vm_has_in vm_arL0
theorem vm_arZ : Cond.arrayClass (newarray.typeOf .boolean) ∈ vm_ws := vm_has_in vm_arZ0
theorem vm_ws_good : ∀ w ∈ vm_ws, goodWord w = true := fun w h => (List.mem_filter.mp h).2
theorem vm_chk {k pc : Nat} {q : Jvm.ClassFile.Instr × Nat × Nat × Nat} (h : vm_ent k pc = some q) : vm_okE k (pc, q) = true := by
  have h1 := List.all_eq_true.mp (vm_okT k)
  have h2 : (pc, q) ∈ vm_tab k := by
    unfold vm_ent at h
    generalize vm_tab k = l at h
    induction l with
    | nil => simp [List.lookup] at h
    | cons a r ih =>
      obtain ⟨j, w⟩ := a
      rw [List.lookup_cons] at h
      split at h
      next he =>
        have e1 : pc = j := by simpa using he
        cases h
        rw [e1]
        exact List.mem_cons_self
      next => exact List.mem_cons_of_mem _ (ih h)
  exact h1 _ h2
theorem vm_dec {k pc x y z : Nat} {i : Jvm.ClassFile.Instr} (h : vm_ent k pc = some (i, x, y, z)) : decode (vm_code k) pc = .ok (i, vm_ilen i x) := by
  have h1 := vm_chk h
  unfold vm_okE at h1
  rw [Bool.and_eq_true] at h1
  exact of_decide_eq_true h1.1
theorem vm_lk0 {k pc x y z : Nat} {i : Jvm.ClassFile.Instr} (h : vm_ent k pc = some (i, x, y, z)) : vm_lnk k pc i x y z = true := by
  have h1 := vm_chk h
  unfold vm_okE at h1
  rw [Bool.and_eq_true] at h1
  exact h1.2
theorem vm_cw {k pc x y z o : Nat} (h : vm_ent k pc = some (.ldc2_w o, x, y, z)) : Cond.constantLong (vm_name k).cls o (Int64.ofNat x) ∈ vm_ws := vm_has_in (vm_lk0 h)
def vm_off (i : Jvm.ClassFile.Instr) : Option Int := match i with
  | .goto o => some o
  | .ifCond _ o => some o
  | .if_icmp _ o => some o
  | .if_acmp _ o => some o
  | .ifnull o => some o
  | .ifnonnull o => some o
  | _ => none
theorem vm_tg0 {k pc x y z : Nat} {i : Jvm.ClassFile.Instr} {o : Int} (h : vm_ent k pc = some (i, x, y, z)) (ho : vm_off i = some o) : (pc : Int) + o = (x : Int) := by
  have h1 := vm_lk0 h
  cases i <;> first | (cases ho; exact of_decide_eq_true h1) | (cases ho; done)
theorem vm_fld {k pc x y z o : Nat} (h : vm_ent k pc = some (.getfield o, x, y, z)) : ∃ q : vw_C, vm_cls[x]? = some q ∧ y < q.2.2 ∧ Cond.fieldLink (vm_name k).cls o (q.2.1 y).1 (q.2.1 y).2.1 (q.2.1 y).2.2.1 ∈ vm_ws := by
  have h1 := vm_lk0 h
  simp only [vm_lnk] at h1
  split at h1
  next q hq =>
    rw [Bool.and_eq_true] at h1
    exact ⟨q, hq, of_decide_eq_true h1.1, vm_has_in h1.2⟩
  next => cases h1
theorem vm_fldp {k pc x y z o : Nat} (h : vm_ent k pc = some (.putfield o, x, y, z)) : ∃ q : vw_C, vm_cls[x]? = some q ∧ y < q.2.2 ∧ Cond.fieldLink (vm_name k).cls o (q.2.1 y).1 (q.2.1 y).2.1 (q.2.1 y).2.2.1 ∈ vm_ws ∧ ((q.2.1 y).2.2.2 = true → (vm_name k).name = "<init>" ∧ (q.2.1 y).1 = (vm_name k).cls) := by
  have h1 := vm_lk0 h
  simp only [vm_lnk] at h1
  split at h1
  next q hq =>
    rw [Bool.and_eq_true, Bool.and_eq_true] at h1
    refine ⟨q, hq, of_decide_eq_true h1.1.1, vm_has_in h1.1.2, fun hf => ?_⟩
    have h2 := h1.2
    rw [hf, Bool.not_true, Bool.false_or, Bool.and_eq_true] at h2
    exact ⟨of_decide_eq_true h2.1, of_decide_eq_true h2.2⟩
  next => cases h1
theorem vm_lay_in {R : String} {T : u_T} {N : Nat} {ps : List Nat} (h : (List.range N).all (fun j => vm_has (ps.getD j 0) (u_lay R T j)) = true) : ∀ w ∈ u_ws R T N, w ∈ vm_ws := by
  intro w hw
  obtain ⟨j, hj, rfl⟩ := List.mem_map.mp hw
  exact vm_has_in (List.all_eq_true.mp h j hj)
theorem vm_cfacts {x : Nat} {q : vw_C} (h : vm_cls[x]? = some q) : (∀ w ∈ u_ws q.1 q.2.1 q.2.2, w ∈ vm_ws) ∧ (∀ k, k < q.2.2 → parseFieldDescriptor (q.2.1 k).2.2.1 = some (vm_tyF x k)) ∧ (∀ a, a < q.2.2 → ∀ b, b < q.2.2 → a ≠ b → (q.2.1 a).2.1 ≠ (q.2.1 b).2.1) ∧ Cond.instantiable q.1 q.2.2 ∈ vm_ws ∧ Cond.initialized q.1 ∈ vm_ws := by
  match x, h with
  | 0, h => cases h; exact ⟨vm_lay_in vm_layX0, vm_tyX0_ok, vm_nmX0, vm_has_in vm_inX0.1, vm_has_in vm_inX0.2⟩
  | 1, h => cases h; exact ⟨vm_lay_in vm_layX1, vm_tyX1_ok, vm_nmX1, vm_has_in vm_inX1.1, vm_has_in vm_inX1.2⟩
  | 2, h => cases h; exact ⟨vm_lay_in vm_layX2, vm_tyX2_ok, vm_nmX2, vm_has_in vm_inX2.1, vm_has_in vm_inX2.2⟩
  | 3, h => cases h; exact ⟨vm_lay_in vm_layX3, vm_tyX3_ok, vm_nmX3, vm_has_in vm_inX3.1, vm_has_in vm_inX3.2⟩
  | 4, h => cases h; exact ⟨vm_lay_in vm_layX4, vm_tyX4_ok, vm_nmX4, vm_has_in vm_inX4.1, vm_has_in vm_inX4.2⟩
  | 5, h => cases h; exact ⟨vm_lay_in vm_layX5, vm_tyX5_ok, vm_nmX5, vm_has_in vm_inX5.1, vm_has_in vm_inX5.2⟩
  | 6, h => cases h; exact ⟨vm_lay_in vm_layX6, vm_tyX6_ok, vm_nmX6, vm_has_in vm_inX6.1, vm_has_in vm_inX6.2⟩
  | n + 7, h => simp [vm_cls] at h
theorem vm_cin {x : Nat} {q : vw_C} (h : vm_cls[x]? = some q) : ∀ w ∈ u_ws q.1 q.2.1 q.2.2, w ∈ vm_ws := (vm_cfacts h).1
theorem vm_cty {x : Nat} {q : vw_C} (h : vm_cls[x]? = some q) : ∀ k, k < q.2.2 → parseFieldDescriptor (q.2.1 k).2.2.1 = some (vm_tyF x k) := (vm_cfacts h).2.1
theorem vm_cnm {x : Nat} {q : vw_C} (h : vm_cls[x]? = some q) : ∀ a, a < q.2.2 → ∀ b, b < q.2.2 → a ≠ b → (q.2.1 a).2.1 ≠ (q.2.1 b).2.1 := (vm_cfacts h).2.2.1
theorem vm_newok {k pc x y z o : Nat} {q : vw_C} (h : vm_ent k pc = some (.new o, x, y, z)) (hq : vm_cls[x]? = some q) : Cond.classLink (vm_name k).cls o q.1 ∈ vm_ws ∧ Cond.instantiable q.1 q.2.2 ∈ vm_ws ∧ Cond.initialized q.1 ∈ vm_ws := by
  have h1 := vm_lk0 h
  simp only [vm_lnk, hq] at h1
  exact ⟨vm_has_in h1, (vm_cfacts hq).2.2.2⟩
theorem vm_ivok {k pc x z o : Nat} (h : vm_ent k pc = some (.invokestatic o, x, 1, z)) : (x < vm_n ∧ (vm_mp x).1 = 1) ∧ Cond.methodLink (vm_name k).cls o (vm_name x) ∈ vm_ws := by
  have h1 := vm_lk0 h
  simp only [vm_lnk, Bool.and_eq_true] at h1
  exact ⟨of_decide_eq_true h1.1, vm_has_in h1.2⟩
theorem vm_ivok3 {k pc x z o : Nat} (h : vm_ent k pc = some (.invokestatic o, x, 3, z)) : (x < vm_n ∧ (vm_mp x).1 = 1) ∧ Cond.methodLinkNest (vm_name k).cls o (vm_name x) "TriangleSets" ∈ vm_nw := by
  have h1 := vm_lk0 h
  simp only [vm_lnk, Bool.and_eq_true] at h1
  exact ⟨of_decide_eq_true h1.1, vm_hasN_in h1.2⟩
theorem vm_ivok4 {k pc x z o : Nat} (h : vm_ent k pc = some (.invokevirtual o, x, 4, z)) : (x < vm_n ∧ (vm_mp x).1 = 3) ∧ Cond.methodLink (vm_name k).cls o (vm_name x) ∈ vm_ws := by
  have h1 := vm_lk0 h
  simp only [vm_lnk, Bool.and_eq_true] at h1
  exact ⟨of_decide_eq_true h1.1, vm_has_in h1.2⟩
theorem vm_ivok5 {k pc x z o : Nat} (h : vm_ent k pc = some (.invokevirtual o, x, 5, z)) : (x < vm_n ∧ (vm_mp x).1 = 3) ∧ Cond.methodLinkNest (vm_name k).cls o (vm_name x) "TriangleSets" ∈ vm_nw := by
  have h1 := vm_lk0 h
  simp only [vm_lnk, Bool.and_eq_true] at h1
  exact ⟨of_decide_eq_true h1.1, vm_hasN_in h1.2⟩
theorem vm_ivok6 {k pc x z o : Nat} (h : vm_ent k pc = some (.invokespecial o, x, 6, z)) : (x < vm_n ∧ (vm_mp x).1 = 2) ∧ Cond.methodLink (vm_name k).cls o (vm_name x) ∈ vm_ws := by
  have h1 := vm_lk0 h
  simp only [vm_lnk, Bool.and_eq_true] at h1
  exact ⟨of_decide_eq_true h1.1, vm_has_in h1.2⟩
theorem vm_ivok7 {k pc x z o : Nat} (h : vm_ent k pc = some (.invokespecial o, x, 7, z)) : (x < vm_n ∧ (vm_mp x).1 = 2) ∧ Cond.methodLinkNest (vm_name k).cls o (vm_name x) "TriangleSets" ∈ vm_nw := by
  have h1 := vm_lk0 h
  simp only [vm_lnk, Bool.and_eq_true] at h1
  exact ⟨of_decide_eq_true h1.1, vm_hasN_in h1.2⟩
theorem vm_ivok8 {k pc x z o : Nat} (h : vm_ent k pc = some (.invokespecial o, x, 8, z)) : Cond.methodLink (vm_name k).cls o objectInit ∈ vm_ws := vm_has_in (vm_lk0 h)
theorem vm_ivok9 {k pc x z o : Nat} (h : vm_ent k pc = some (.invokestatic o, x, 9, z)) : Cond.methodLink (vm_name k).cls o arraycopyName ∈ vm_ws := vm_has_in (vm_lk0 h)
theorem vm_ivok10 {k pc x z o : Nat} (h : vm_ent k pc = some (.invokestatic o, x, 10, z)) : Cond.methodLink (vm_name k).cls o Lib.Math.max.name ∈ vm_ws := vm_has_in (vm_lk0 h)
theorem vm_ivok11 {k pc x z o : Nat} (h : vm_ent k pc = some (.invokestatic o, x, 11, z)) : Cond.methodLink (vm_name k).cls o Lib.Math.min.name ∈ vm_ws := vm_has_in (vm_lk0 h)
theorem vm_ivok12 {k pc x z o : Nat} (h : vm_ent k pc = some (.invokestatic o, x, 12, z)) : Cond.methodLink (vm_name k).cls o Lib.MathLoose.abs_long.x ∈ vm_ws := vm_has_in (vm_lk0 h)
/-- the called method's own words -/
theorem vm_mfacts {j : Nat} (hj : j < vm_n) (h0 : (vm_mp j).1 ≠ 0) : Cond.code (vm_name j) (vm_code j) (vm_max j) (vm_ret j) ∈ vm_ws ∧ plainName (vm_name j).cls = true ∧ Cond.initialized (vm_name j).cls ∈ vm_ws ∧ ((vm_name j).cls ≠ "java/lang/invoke/MethodHandle" ∧ (vm_name j).cls ≠ "java/lang/invoke/VarHandle" ∧ (parseMethodDescriptor (vm_name j).desc).map (fun d => d.parameters.length) = some (vm_na j)) ∧
    ((vm_mp j).1 = 1 → Cond.static (vm_name j) ∈ vm_ws) ∧ ((vm_mp j).1 = 2 → Cond.instanceMethod (vm_name j) ∈ vm_ws ∧ (vm_name j).name = "<init>" ∧ vm_ret j = none) ∧ ((vm_mp j).1 = 3 → Cond.instanceMethod (vm_name j) ∈ vm_ws ∧ Cond.selects (vm_name j).cls (vm_name j) (vm_name j) ∈ vm_ws ∧ (vm_cls[vm_ci j]?).map (fun q => q.1) = some (vm_name j).cls) := by
  have h1 := vm_mchk_ok j hj
  unfold vm_mchk at h1
  rw [Bool.or_eq_true] at h1
  rcases h1 with h1 | h1
  · exact absurd (by simpa using h1) h0
  · simp only [Bool.and_eq_true, decide_eq_true_eq] at h1
    obtain ⟨⟨⟨⟨⟨a2, a3⟩, a4⟩, a5⟩, a6⟩, a7⟩ := h1
    refine ⟨vm_cdin j hj h0, a3, vm_has_in a2, ⟨a4, a5, a6⟩, fun e => ?_, fun e => ?_, fun e => ?_⟩
    · rw [e] at a7
      exact vm_has_in a7
    · rw [e] at a7
      simp only [Bool.and_eq_true, decide_eq_true_eq] at a7
      exact ⟨vm_has_in a7.1.1, a7.1.2, a7.2⟩
    · rw [e] at a7
      simp only [Bool.and_eq_true, decide_eq_true_eq] at a7
      exact ⟨vm_has_in a7.1.1, vm_has_in a7.1.2, a7.2⟩
theorem vm_nwt {w : Cond} (h : w ∈ vm_nw) : w.onTables = true := by
  have h1 := (List.mem_filter.mp h).2
  cases w <;> first | rfl | (cases h1; done)
theorem vm_nwarm {w : Cond} {s U : State} (h : w ∈ vm_nw) (hW : s.WarmedH U.vm) (hZ : va_Nw w s) : va_Nw w U := by
  have h1 := (List.mem_filter.mp h).2
  cases w <;> first | exact va_Nw.warmM hW hZ | (cases h1; done)
theorem vm_aoks {ct : Nat → ClassId} {t ci : Nat} (h : vm_aok t ci = true) : ∃ q : vw_C, ([(ct 0, .int), (ct 1, .long), (ct 2, .boolean), (ct 3, .object vm_e3), (ct 4, .object vm_e4)] : List (ClassId × FieldType))[t]? = some (ct t, .object q.1) ∧ vm_cls[ci]? = some q := by
  have h1 : (t = 3 ∧ ci = 1) ∨ (t = 4 ∧ ci = 2) := by simpa [vm_aok] using h
  rcases h1 with ⟨rfl, rfl⟩ | ⟨rfl, rfl⟩
  · exact ⟨_, rfl, rfl⟩
  · exact ⟨_, rfl, rfl⟩
theorem vm_newqw {k pc x y z o : Nat} (h : vm_ent k pc = some (.anewarray o, x, y, z)) : (x = 3 ∧ Cond.classLink (vm_name k).cls o vm_e3 ∈ vm_ws) ∨ (x = 4 ∧ Cond.classLink (vm_name k).cls o vm_e4 ∈ vm_ws) := by
  have h1 := vm_lk0 h
  simp only [vm_lnk, Bool.or_eq_true, Bool.and_eq_true, decide_eq_true_eq] at h1
  rcases h1 with ⟨h1, h2⟩ | ⟨h1, h2⟩
  · exact Or.inl ⟨h1, vm_has_in h2⟩
  · exact Or.inr ⟨h1, vm_has_in h2⟩
