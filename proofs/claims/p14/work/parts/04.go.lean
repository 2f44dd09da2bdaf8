/-! The numbered machine's calls; what it reaches; that the JVM reaches the same. -/
def vm_rt (k : Nat) (fr : vm_F) : Option (Option Value) := match vm_ent k fr.1 with
  | some (.ireturn, _, _, _) => (match fr.2.2, vm_ret k with
    | [.int v], some .int => some (some (.int v))
    | [.int v], some .boolean => if v = 0 ∨ v = 1 then some (some (.int v)) else none
    | _, _ => none)
  | some (.lreturn, _, _, _) => (match fr.2.2, vm_ret k with
    | [.long v], some .long => some (some (.long v))
    | _, _ => none)
  | some (.areturn, _, _, _) => (match fr.2.2, vm_ret k with
    | [.ref n], some (.object _) => some (some (.ref n))
    | [.null], some (.object _) => some (some .null)
    | _, _ => none)
  | some (.return_, _, _, _) => (match fr.2.2, vm_ret k with
    | [], none => some none
    | _, _ => none)
  | _ => none
def vm_cs (j pc : Nat) (ls : vm_L) (st : List Value) : Option (Nat × List Value × vm_F) :=
  if vm_na j ≤ st.length ∧ ((st.drop (vm_na j)).map fun v => v.category).sum ≤ 8 ∧ (lg_sl (st.take (vm_na j)).reverse).length ≤ vm_max j then some (j, (st.take (vm_na j)).reverse, (pc + 3, ls, st.drop (vm_na j))) else none
def vm_cv (vt : Bool) (j pc : Nat) (ls : vm_L) (st : List Value) (vh : vm_H) : Option (Nat × List Value × vm_F) := match st.drop (vm_na j) with
  | .ref n :: r => (match vm_at vh n with
    | some (.inr (ci, _)) => if (vt = true → ci = vm_ci j) ∧ vm_na j ≤ st.length ∧ (r.map fun v => v.category).sum ≤ 8 ∧ (lg_sl (.ref n :: (st.take (vm_na j)).reverse)).length ≤ vm_max j then some (j, .ref n :: (st.take (vm_na j)).reverse, (pc + 3, ls, r)) else none
    | _ => none)
  | _ => none
def vm_cl (k : Nat) (fr : vm_F) (vh : vm_H) : Option (Nat × List Value × vm_F) := match vm_ent k fr.1 with
  | some (.invokestatic _, j, 1, _) => vm_cs j fr.1 fr.2.1 fr.2.2
  | some (.invokestatic _, j, 3, _) => vm_cs j fr.1 fr.2.1 fr.2.2
  | some (.invokevirtual _, j, 4, _) => vm_cv true j fr.1 fr.2.1 fr.2.2 vh
  | some (.invokevirtual _, j, 5, _) => vm_cv true j fr.1 fr.2.1 fr.2.2 vh
  | some (.invokespecial _, j, 6, _) => vm_cv false j fr.1 fr.2.1 fr.2.2 vh
  | some (.invokespecial _, j, 7, _) => vm_cv false j fr.1 fr.2.1 fr.2.2 vh
  | _ => none
/-- a copy from array to array -/
def vm_acp (n dp : Int32) (a : Nat) (sp : Int32) (a0 : Nat) (vh : vm_H) : Option vm_H := match vm_at vh a0, vm_at vh a with
  | some (.inl (1, n0, .inr (.inl f))), some (.inl (1, n1, .inr (.inl g))) => if ¬ sp < 0 ∧ ¬ dp < 0 ∧ ¬ n < 0 ∧ sp.toNatClampNeg + n.toNatClampNeg ≤ n0 ∧ dp.toNatClampNeg + n.toNatClampNeg ≤ n1 then some (vh.set a (some (.inl (1, n1, .inr (.inl (va_cpy f g sp.toNatClampNeg dp.toNatClampNeg n.toNatClampNeg)))))) else none
  | some (.inl (0, n0, .inl f)), some (.inl (0, n1, .inl g)) => if (a0 ≠ 0 ∧ a ≠ 0) ∧ ¬ sp < 0 ∧ ¬ dp < 0 ∧ ¬ n < 0 ∧ sp.toNatClampNeg + n.toNatClampNeg ≤ n0 ∧ dp.toNatClampNeg + n.toNatClampNeg ≤ n1 then some (vh.set a (some (.inl (0, n1, .inl (va_cpy f g sp.toNatClampNeg dp.toNatClampNeg n.toNatClampNeg))))) else none
  | _, _ => none
/-- Object's constructor: nothing but the return; the copy; the greater, the less, the absolute value -/
def vm_nt (k : Nat) (fr : vm_F) (vh : vm_H) : Option (vm_F × vm_H) := match vm_ent k fr.1 with
  | some (.invokespecial _, _, 8, _) => (match fr.2.2 with
    | .ref _ :: r => if (r.map fun v => v.category).sum ≤ 8 then some ((fr.1 + 3, fr.2.1, r), vh) else none
    | _ => none)
  | some (.invokestatic _, _, 9, _) => (match fr.2.2 with
    | .int n :: .int dp :: .ref a :: .int sp :: .ref a0 :: r => if (r.map fun v => v.category).sum ≤ 8 then (match vm_acp n dp a sp a0 vh with
      | some vh1 => some ((fr.1 + 3, fr.2.1, r), vh1)
      | none => none) else none
    | _ => none)
  | some (.invokestatic _, _, 10, _) => (match fr.2.2 with
    | .int y :: .int x :: r => if (r.map fun v => v.category).sum ≤ 8 then some ((fr.1 + 3, fr.2.1, .int (if x < y then y else x) :: r), vh) else none
    | _ => none)
  | some (.invokestatic _, _, 11, _) => (match fr.2.2 with
    | .int y :: .int x :: r => if (r.map fun v => v.category).sum ≤ 8 then some ((fr.1 + 3, fr.2.1, .int (if y < x then y else x) :: r), vh) else none
    | _ => none)
  | some (.invokestatic _, _, 12, _) => (match fr.2.2 with
    | .long x :: r => if (r.map fun v => v.category).sum ≤ 8 then some ((fr.1 + 3, fr.2.1, .long (if 0 < x then x else -x) :: r), vh) else none
    | _ => none)
  | _ => none
def vm_st (k : Nat) (fr : vm_F) (vh : vm_H) : vm_O := match vm_ent k fr.1 with
  | some (i, x, y, _) => vm_x (vm_max k) i x y fr.1 fr.2.1 fr.2.2 vh
  | none => none
abbrev vm_G : Type := Nat → Nat → Nat → vm_F → vm_H → vm_F × vm_H × Nat × Nat → Prop
/-- method k, at the frame fr over the cells vh, with room for d calls one in another and w words of theirs, comes to the frame and the cells of o, having made so many cells with so many slots -/
def vm_Cl (P : vm_G) : Prop :=
  (∀ d w k fr vh, P d w k fr vh (fr, vh, 0, 0)) ∧
  (∀ d w k fr vh fr1 vh1 a c fr2 vh2 nc ns, vm_st k fr vh = some (fr1, vh1, a, c) → P d w k fr1 vh1 (fr2, vh2, nc, ns) → P d w k fr vh (fr2, vh2, a + nc, c + ns)) ∧
  (∀ d w k fr vh j as fr1 d1 w1 frR vh1 n1 s1 r fr2 vh2 n2 s2, vm_cl k fr vh = some (j, as, fr1) → d1 + 1 ≤ d → 19 + vm_max j + w1 ≤ w → P d1 w1 j (0, lv_args 0 as, []) vh (frR, vh1, n1, s1) → vm_rt j frR = some r → P d w k (fr1.1, fr1.2.1, r.toList ++ fr1.2.2) vh1 (fr2, vh2, n2, s2) → P d w k fr vh (fr2, vh2, n1 + n2, s1 + s2)) ∧
  (∀ d w k fr vh fr1 vh1 o, vm_nt k fr vh = some (fr1, vh1) → 1 ≤ d → 30 ≤ w → P d w k fr1 vh1 o → P d w k fr vh o)
def vm_Go : vm_G := fun d w k fr vh o => ∀ P : vm_G, vm_Cl P → P d w k fr vh o
theorem vm_Go.rf {d w k : Nat} {fr : vm_F} {vh : vm_H} : vm_Go d w k fr vh (fr, vh, 0, 0) := fun _ h => h.1 d w k fr vh
theorem vm_Go.st {d w k : Nat} {fr fr1 : vm_F} {vh vh1 : vm_H} {a c : Nat} {o : vm_F × vm_H × Nat × Nat} (h1 : vm_st k fr vh = some (fr1, vh1, a, c)) (h2 : vm_Go d w k fr1 vh1 o) : vm_Go d w k fr vh (o.1, o.2.1, a + o.2.2.1, c + o.2.2.2) := fun P h => h.2.1 d w k fr vh fr1 vh1 a c o.1 o.2.1 o.2.2.1 o.2.2.2 h1 (h2 P h)
theorem vm_Go.cl {d w k j d1 w1 : Nat} {fr fr1 frR fr2 : vm_F} {as : List Value} {vh vh1 vh2 : vm_H} {n1 s1 n2 s2 : Nat} {r : Option Value} (h1 : vm_cl k fr vh = some (j, as, fr1)) (hd : d1 + 1 ≤ d) (hw : 19 + vm_max j + w1 ≤ w) (h2 : vm_Go d1 w1 j (0, lv_args 0 as, []) vh (frR, vh1, n1, s1)) (h3 : vm_rt j frR = some r) (h4 : vm_Go d w k (fr1.1, fr1.2.1, r.toList ++ fr1.2.2) vh1 (fr2, vh2, n2, s2)) : vm_Go d w k fr vh (fr2, vh2, n1 + n2, s1 + s2) :=
  fun P h => h.2.2.1 d w k fr vh j as fr1 d1 w1 frR vh1 n1 s1 r fr2 vh2 n2 s2 h1 hd hw (h2 P h) h3 (h4 P h)
theorem vm_Go.nt {d w k : Nat} {fr fr1 : vm_F} {vh vh1 : vm_H} {o : vm_F × vm_H × Nat × Nat} (h1 : vm_nt k fr vh = some (fr1, vh1)) (hd : 1 ≤ d) (hw : 30 ≤ w) (h2 : vm_Go d w k fr1 vh1 o) : vm_Go d w k fr vh o := fun P h => h.2.2.2 d w k fr vh fr1 vh1 o h1 hd hw (h2 P h)
/-- the same of the JVM -/
def vm_Snd : vm_G := fun d w k fr vh o => ∀ (p : Program) (l : Launch) (e : Env) (R : Room) (s : State) (m : MethodId) (args : Array Value) (below : List Frame) (meth : Method) (c : Code) (Q : State → Prop) (D : va_G) (ct : Nat → ClassId) (bs b L : Nat) (xs : Nat → Int32) (cells slots : Nat),
  vm_C p s m args meth c D ct k → d ≤ R.frames → w ≤ R.locals → cells + o.2.2.1 ≤ R.cells → slots + o.2.2.2 ≤ R.slots →
  vm_On p l e R s m args below meth c Q D ct bs b L xs (vm_max k) o.1 o.2.1 (cells + o.2.2.1) (slots + o.2.2.2) → vm_On p l e R s m args below meth c Q D ct bs b L xs (vm_max k) fr vh cells slots
theorem vm_lm_args (bs b : Nat) (as : List Value) : ∀ i, lv_args i (as.map (vm_rv bs b)) = vm_lm bs b (lv_args i as) := by
  induction as with
  | nil => intro i; rfl
  | cons v r ih =>
    intro i
    simp only [List.map_cons, lv_args, vm_cat, ih]
    rfl
theorem vm_sl_len (bs b : Nat) (as : List Value) : (lg_sl (as.map (vm_rv bs b))).length = (lg_sl as).length := by
  induction as with
  | nil => rfl
  | cons v r ih =>
    simp only [lg_sl, List.map_cons, List.flatMap_cons, List.length_append, vm_cat] at ih ⊢
    rw [ih]
    split <;> rfl
theorem vm_sum_cat (bs b : Nat) (st : List Value) : ((st.map (vm_rv bs b)).map fun v => v.category).sum = (st.map fun v => v.category).sum := by
  rw [List.map_map]
  congr 1
  exact List.map_congr_left fun v _ => vm_cat bs b v
def vm_Pc (D : va_G) (ct : Nat → ClassId) (bs b L : Nat) (xs : Nat → Int32) (as : List Value) (vh : vm_H) : Array Value → State → Prop := va_Pc (as.map (vm_rv bs b)) (fun U => vm_R D ct bs b L xs vh U U.heap ∧ vm_K D ct U)
def vm_Qc (D : va_G) (ct : Nat → ClassId) (bs b L : Nat) (xs : Nat → Int32) (r : Option Value) (vh : vm_H) : Array Value → State → Outcome → State → Prop := fun _ st o t => o = .returned (r.map (vm_rv bs b)) ∧ vm_R D ct bs b L xs vh t t.heap ∧ va_F (fun q => b ≤ q) st t
theorem vm_K.moved {D : va_G} {ct : Nat → ClassId} {u U : State} (hW : u.WarmedH U.vm) (h : vm_K D ct u) : vm_K D ct U :=
  ⟨va_K.moved hW.alike h.1, h.2.1.moved hW.alike, h.2.2.1.moved hW.alike, fun w hw => vm_nwarm hw hW (h.2.2.2 w hw)⟩
theorem vm_K.same {D : va_G} {ct : Nat → ClassId} {u U : State} (he : u.vm = U.vm) (h : vm_K D ct u) : vm_K D ct U :=
  ⟨va_K.moved (by rw [he]; exact Vm.Alike.refl U.vm) h.1, h.2.1.moved (by rw [he]; exact Vm.Alike.refl U.vm), h.2.2.1.moved (by rw [he]; exact Vm.Alike.refl U.vm), fun w hw => va_Nw.same (vm_nwt hw) he (h.2.2.2 w hw)⟩
theorem vm_blind (D : va_G) (ct : Nat → ClassId) (bs b L : Nat) (xs : Nat → Int32) (as : List Value) (vh : vm_H) : FrameBlind (vm_Pc D ct bs b L xs as vh) :=
  fun a U g mk q => ⟨q.1, vm_R.moved (u := U) (U := U.calling g mk a) (Vm.Alike.refl U.vm) q.2.1, vm_K.same (u := U) (U := U.calling g mk a) rfl q.2.2⟩
theorem vm_good (j : Nat) (hj : j < vm_n) (h0 : (vm_mp j).1 ≠ 0) : GoodIn vm_ws (Cond.code (vm_name j) (vm_code j) (vm_max j) (vm_ret j) :: vm_ws) := by
  intro w hw
  have h1 : w ∈ vm_ws := by
    rcases List.mem_cons.mp hw with rfl | h
    · exact (vm_mfacts hj h0).1
    · exact h
  exact ⟨h1, good_of_word (vm_ws_good w h1)⟩
theorem vm_met {d w j : Nat} {as : List Value} {vh vh1 : vm_H} {frR : vm_F} {n1 s1 : Nat} {r : Option Value} (l : Launch) (D : va_G) (ct : Nat → ClassId) (bs b L : Nat) (xs : Nat → Int32) (hj : j < vm_n) (h0 : (vm_mp j).1 ≠ 0) (hlen : (lg_sl as).length ≤ vm_max j)
    (ih : vm_Snd d w j (0, lv_args 0 as, []) vh (frR, vh1, n1, s1)) (hr : vm_rt j frR = some r) :
    Met l (vm_name j) (Cond.code (vm_name j) (vm_code j) (vm_max j) (vm_ret j) :: vm_ws) { frames := d, cells := n1, slots := s1, locals := w } (vm_Pc D ct bs b L xs as vh) (vm_Qc D ct bs b L xs r vh1) n1 s1 (fun q => b ≤ q) := by
  refine Met.ofW (cc := vm_code j) (maxL := vm_max j) (ret := vm_ret j) (vm_mfacts hj h0).2.1 rfl ?_
  intro p e s m args below meth c s₁ B hml hv
  obtain ⟨rfl, hR, hK⟩ := hv
  have hts0 := atoms_spec (ws := Cond.code (vm_name j) (vm_code j) (vm_max j) (vm_ret j) :: vm_ws) B.pre
  have hlk := B.notSynchronized
  have C : vm_C p s m (as.map (vm_rv bs b)).toArray meth c D ct j := ⟨B.exec, B.bytes, hml, B.returns, B.notSynchronized, (name_of_methodNamed B.named B.method).1, findClass_of_methodNamed B.named, fun w h => hts0 w (List.mem_cons_of_mem _ h), hK⟩
  have hl := lv_entry (as.map (vm_rv bs b)) (n := vm_max j) (by rw [vm_sl_len]; exact hlen)
  rw [lg_entry_eq]
  rw [vm_lm_args] at hl
  refine ih p l e _ s m _ below meth c _ D ct bs b L xs 0 0 C (Nat.le_refl _) (Nat.le_refl _) (by show 0 + n1 ≤ n1; omega) (by show 0 + s1 ≤ s1; omega) ?_ s.heap [] _ hR va_S.rf hl
  intro H locs la hR2 hS2 hl2
  show W p l e _ s m _ below meth c H locs (0 + n1) (0 + s1) (MQ below (vm_Qc D ct bs b L xs r vh1) _ s n1 s1 (fun q => b ≤ q)) (F0 m frR.1 la (frR.2.2.map (vm_rv bs b)))
  rw [Nat.zero_add, Nat.zero_add]
  obtain ⟨hX, hb, -, hrt, -⟩ := id C
  unfold vm_rt at hr
  split at hr
  next x y z he =>
    have hd := vm_dec he
    split at hr
    next v hst hre =>
      cases hr
      rw [hst]
      exact W.iret hX hb (hrt.trans hre) (fun t ht hW => ⟨rfl, by rw [ht]; exact hR2.moved hW.alike, hS2.F ht⟩) hS2.2.2 hd
    next v hst hre =>
      split at hr
      next hv =>
        cases hr
        rw [hst]
        exact W.zret hX hb (hrt.trans hre) (by rcases hv with rfl | rfl <;> rfl) (fun t ht hW => ⟨rfl, by rw [ht]; exact hR2.moved hW.alike, hS2.F ht⟩) hS2.2.2 hd
      next => cases hr
    next => cases hr
  next x y z he =>
    have hd := vm_dec he
    split at hr
    next v hst hre =>
      cases hr
      rw [hst]
      exact W.lret hX hb (hrt.trans hre) (fun t ht hW => ⟨rfl, by rw [ht]; exact hR2.moved hW.alike, hS2.F ht⟩) hS2.2.2 hd
    next => cases hr
  next x y z he =>
    have hd := vm_dec he
    split at hr
    next n nm hst hre =>
      cases hr
      rw [hst]
      exact W.aret hX hb (hrt.trans hre) (Or.inl ⟨nm, rfl⟩) (Or.inr ⟨_, rfl⟩) (fun t ht hW => ⟨rfl, by rw [ht]; exact hR2.moved hW.alike, hS2.F ht⟩) hS2.2.2 hd
    next nm hst hre =>
      cases hr
      rw [hst]
      exact W.aret hX hb (hrt.trans hre) (Or.inl ⟨nm, rfl⟩) (Or.inl rfl) (fun t ht hW => ⟨rfl, by rw [ht]; exact hR2.moved hW.alike, hS2.F ht⟩) hS2.2.2 hd
    next => cases hr
  next x y z he =>
    have hd := vm_dec he
    split at hr
    next hst hre =>
      cases hr
      rw [hst]
      exact W.vret hX hb (hrt.trans hre) (fun t ht hW => ⟨rfl, by rw [ht]; exact hR2.moved hW.alike, hS2.F ht⟩) hS2.2.2 hd
    next => cases hr
  next => cases hr
