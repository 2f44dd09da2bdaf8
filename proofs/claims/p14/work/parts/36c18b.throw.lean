def vm_Wo (d w k : Nat) (fr : vm_F) (vh : vm_H) (Post : vm_F → vm_H → Prop) : Prop := ∃ fr2 vh2, vm_Go d w k fr vh (fr2, vh2, 0, 0) ∧ Post fr2 vh2
section WO
variable {d w k pc x y z : Nat} {ls : vm_L} {st r : List Value} {vh : vm_H} {Post : vm_F → vm_H → Prop}
theorem wo_end {fr : vm_F} (h : Post fr vh) : vm_Wo d w k fr vh Post := ⟨fr, vh, vm_Go.rf, h⟩
theorem wo_x {i : Jvm.ClassFile.Instr} {fr1 : vm_F} (e : vm_ent k pc = some (i, x, y, z)) (h : vm_x (vm_max k) i x y pc ls st vh = some (fr1, vh, 0, 0)) (g : vm_Wo d w k fr1 vh Post) : vm_Wo d w k (pc, ls, st) vh Post := by
  obtain ⟨fr2, vh2, g1, g2⟩ := g
  exact ⟨fr2, vh2, vm_Go.st (o := (fr2, vh2, 0, 0)) ((vm_st_of e).trans h) g1, g2⟩
theorem wo_if0 {cd : Jvm.ClassFile.Cond} {off : Int} {a : Int32} (e : vm_ent k pc = some (.ifCond cd off, x, y, z)) (h : vm_cond cd a 0 = false) (g : vm_Wo d w k (pc + 3, ls, r) vh Post) : vm_Wo d w k (pc, ls, .int a :: r) vh Post := wo_x e (by simp only [vm_x, h]; rfl) g
end WO
theorem e58_0 : vm_ent 58 0 = some (.lload_n 3, 0, 0, 0) := by decide +kernel
theorem e58_1 : vm_ent 58 1 = some (.lconst 0, 0, 0, 0) := by decide +kernel
theorem e58_2 : vm_ent 58 2 = some (.lcmp, 0, 0, 0) := by decide +kernel
theorem e58_3 : vm_ent 58 3 = some (.ifCond .ne 13, 16, 0, 0) := by decide +kernel
theorem e58_6 : vm_ent 58 6 = some (.new 217, 99, 0, 0) := by decide +kernel
theorem e58_9 : vm_ent 58 9 = some (.dup, 0, 0, 0) := by decide +kernel
theorem e58_10 : vm_ent 58 10 = some (.ldc 219, 0, 0, 0) := by decide +kernel
theorem e58_12 : vm_ent 58 12 = some (.invokespecial 221, 9999, 99, 602) := by decide +kernel
theorem e58_15 : vm_ent 58 15 = some (.athrow, 0, 0, 0) := by decide +kernel
theorem e58_16 : vm_ent 58 16 = some (.lload_n 1, 0, 0, 0) := by decide +kernel
theorem e58_17 : vm_ent 58 17 = some (.bipush 32, 0, 0, 0) := by decide +kernel
theorem e58_19 : vm_ent 58 19 = some (.lshl, 0, 0, 0) := by decide +kernel
theorem e58_20 : vm_ent 58 20 = some (.lload_n 3, 0, 0, 0) := by decide +kernel
theorem e58_21 : vm_ent 58 21 = some (.ldiv, 0, 0, 0) := by decide +kernel
theorem e58_22 : vm_ent 58 22 = some (.lreturn, 0, 0, 0) := by decide +kernel
theorem e124_0 : vm_ent 124 0 = some (.aload 5, 0, 0, 0) := by decide +kernel
theorem e124_2 : vm_ent 124 2 = some (.iconst 0, 0, 0, 0) := by decide +kernel
theorem e124_3 : vm_ent 124 3 = some (.aload_n 0, 0, 0, 0) := by decide +kernel
theorem e124_4 : vm_ent 124 4 = some (.lload_n 1, 0, 0, 0) := by decide +kernel
theorem e124_5 : vm_ent 124 5 = some (.lload_n 3, 0, 0, 0) := by decide +kernel
theorem e124_6 : vm_ent 124 6 = some (.invokevirtual 7, 58, 4, 558) := by decide +kernel
theorem e124_9 : vm_ent 124 9 = some (.lastore, 0, 0, 0) := by decide +kernel
theorem e124_10 : vm_ent 124 10 = some (.goto 7, 17, 0, 0) := by decide +kernel
theorem e124_13 : vm_ent 124 13 = some (.astore 6, 0, 0, 0) := by decide +kernel
theorem e124_15 : vm_ent 124 15 = some (.iconst 1, 0, 0, 0) := by decide +kernel
theorem e124_16 : vm_ent 124 16 = some (.ireturn, 0, 0, 0) := by decide +kernel
theorem e124_17 : vm_ent 124 17 = some (.iconst 0, 0, 0, 0) := by decide +kernel
theorem e124_18 : vm_ent 124 18 = some (.ireturn, 0, 0, 0) := by decide +kernel
/-! pseudo(a, 0) throws; the law's own pseudo catches it. -/
def px_E : String := "java/lang/ArithmeticException"
def px_ns : List String := ["java/lang/RuntimeException", "java/lang/Exception"]
def px_isB (w : Cond) : Bool := match w with
  | .declares _ => true
  | .castable _ _ => true
  | _ => false
def px_B : List Cond := lw_tbl.filter px_isB
def px_L : List Cond := vx_atS "TriangleSets" 221 px_E px_ns
set_option maxRecDepth 100000 in
theorem px_h1 : (px_L.filter goodWord).all (fun w => lw_tbl.any (fun v => decide (v = w))) = true := by decide +kernel
set_option maxRecDepth 100000 in
theorem px_h2 : (px_L.filter (fun w => !goodWord w)).all (fun w => px_isB w && lw_tbl.any (fun v => decide (v = w))) = true := by decide +kernel
set_option maxRecDepth 100000 in
theorem px_h3 : (Cond.classLink "TriangleSets" 217 px_E :: Cond.initialized px_E :: px_L).all vx_ot = true := by decide +kernel
set_option maxRecDepth 100000 in
theorem px_h4 : lw_tbl.any (fun v => decide (v = Cond.classLink "TriangleSets" 217 px_E)) = true ∧ lw_tbl.any (fun v => decide (v = Cond.initialized px_E)) = true ∧ lw_tbl.any (fun v => decide (v = Cond.classLink "TriangleSetsLaw" 13 px_E)) = true ∧ lw_tbl.any (fun v => decide (v = Cond.castable px_E px_E)) = true := by decide +kernel
theorem px_any {w : Cond} (h : lw_tbl.any (fun v => decide (v = w)) = true) : w ∈ lw_tbl := by
  obtain ⟨v, hv, e⟩ := List.any_eq_true.mp h
  have e := of_decide_eq_true e
  subst e
  exact hv
theorem px_in {w : Cond} (h : lw_tbl.any (fun v => decide (v = w)) = true) (hg : goodWord w = true) : w ∈ vm_ws := List.mem_filter.mpr ⟨px_any h, hg⟩
section PXC
variable {p : Program} {l : Launch} {e : Env} {R : Room} {s : State} {m : MethodId} {args : Array Value} {below : List Frame} {meth : Method} {c : Code} {H : Heap} {locs : List Loc} {cells slots : Nat} {Q : State → Prop}
/-- a table of one row, which names a class that takes what is thrown: the search finds its handler, and notes the class -/
theorem px_find {S : State} {f : JFrame} {a : Addr} {x : ExceptionTableEntry} {k : ClassId} {cell : Cell} (hm : S.vm.method? f.method = some meth) (hc : meth.code = some c) (ht : c.exceptionTable.toList = [x]) (hx : covers x f.pc = true) (h0 : x.catchType ≠ 0)
    (hl : S.vm.ClassLinks e.platform f.method.cls x.catchType k) (hcell : S.heap[a]? = some cell) (hobj : ∀ z, cell.vm ≠ .statics z) (hk : ∃ z, S.vm.classes[cell.cls]? = some z) (hk2 : ∃ z, S.vm.classes[k]? = some z) (hfit : S.vm.assignable cell.cls k = true)
    (P : Handler → Pre) (E : CtlPost) (d : Bool) (acts : List Action) : wp (findHandler f a) P E e d acts S ↔ P (.found x.handlerPc) d acts (S.setVm (S.vm.noted f.method.cls x.catchType (.cls k))) := by
  rw [W.findHandler_eq hm hc, ht]
  simp only [covers] at hx
  obtain ⟨ha, hb⟩ := (resolveClass_links e.toSetting hl).op (op := VmOp.resolveClass f.method.cls x.catchType) rfl
  have hal : S.vm.Alike (S.vm.noted f.method.cls x.catchType (.cls k)) := (Vm.Alike.refl S.vm).noted _ _ _
  obtain ⟨z1, hz1⟩ := hk
  obtain ⟨z2, hz2⟩ := hk2
  obtain ⟨y1, hy1, -⟩ := hal.2.2 _ _ hz1
  obtain ⟨y2, hy2, -⟩ := hal.2.2 _ _ hz2
  have hf : (S.vm.noted f.method.cls x.catchType (.cls k)).assignable cell.cls k = true := by rw [hal.assignable]; exact hfit
  simp [findHandler.go, hx, h0, ha, hb, hcell, hobj, hy1, hy2, hf, VmOp.dirties, VmOp.acts]
/-- .. and the method goes on there -/
theorem px_catch {pc : Nat} {ls : Array Slot} {rest : List Value} {own name E : String} {ce : Cell} {q : Addr} (hown : s.vm.findClass own = some m.cls) (x : ExceptionTableEntry) (ht : c.exceptionTable.toList = [x]) (hx : covers x pc = true) (h0 : x.catchType ≠ 0)
    (hlink : (Cond.classLink own x.catchType name).before args s = true) (hcast : (Cond.castable E name).before args s = true) (hcell : H[q]? = some ce) (hv : ce.vm = .none) (hcl : s.vm.findClass E = some ce.cls)
    (kk : W p l e R s m args below meth c H locs cells slots Q (F0 m x.handlerPc ls [.ref q])) : vx_W p l e R s m args below meth c H locs cells slots Q (F0 m pc ls rest) q := by
  intro T hT X
  have hpl : e.platform.magicAccessors = ({} : Platform).magicAccessors := by rw [X.admits.platform]
  obtain ⟨c3, c4, hc3, hc4, hasg⟩ := Cond.castable_spec hcast
  cases Option.some.inj (hc3.symm.trans hcl)
  obtain ⟨c5, hc5, hcl5⟩ := Cond.classLink_spec hown hlink e.platform hpl
  cases Option.some.inj (hc4.symm.trans hc5)
  obtain ⟨dk, _, _, kt, hd, _, _, _, _, hkt, _, hopen⟩ := hcl5.here
  have hcl0 := X.warmed.classLinks hcl5
  have hW' : s.WarmedH (T.vm.noted m.cls x.catchType (.cls c4)) := X.warmed.noted hd hopen (State.rightAt_cls hcl5)
  have hal := X.warmed.alike
  obtain ⟨kt', hkt', -⟩ := hal.2.2 _ _ hkt
  obtain ⟨k9, h9, -⟩ := Vm.findClass_spec hcl
  obtain ⟨k9', h9', -⟩ := hal.2.2 _ _ h9
  have hfit' : T.vm.assignable ce.cls c4 = true := by rw [hal.assignable]; exact hasg
  obtain ⟨t, a1, b1⟩ := kk (T.setVm (T.vm.noted m.cls x.catchType (.cls c4))) hT (X.noted hW')
  refine ⟨t, ?_, b1⟩
  obtain ⟨hgo, hw⟩ := X.here.throwing (g := F0 m pc ls rest) q
  refine Steps.head hgo hw ?_
  have hF := px_find (e := e) (S := (T.setTop (F0 m pc ls rest)).pushFrame (.throwing q)) (f := F0 m pc ls rest) (a := q) (meth := meth) (c := c) (x := x) (k := c4) (cell := ce) X.method' X.code ht hx h0 hcl0 (by show T.heap[q]? = some ce; rw [hT]; exact hcell) (VmData.ne_statics_of (by rw [hv]; rfl)) ⟨k9', h9'⟩ ⟨kt', hkt'⟩ hfit'
  have hst : ∀ r, (stepThrowing e ((T.setTop (F0 m pc ls rest)).pushFrame (.throwing q)) q (.java (F0 m pc ls rest) :: r)).Is ((((T.setTop (F0 m pc ls rest)).pushFrame (.throwing q)).setVm (T.vm.noted m.cls x.catchType (.cls c4))).setFrames (.java (F0 m x.handlerPc ls [.ref q]) :: r)) [] := by
    intro r
    simp only [stepThrowing, searchFrame, vmDo]
    generalize hr : Sem.go _ e false [] ((T.setTop (F0 m pc ls rest)).pushFrame (.throwing q)) = res
    obtain ⟨as, rfl, ha⟩ := Sem.eq_ok_of hr (a := Handler.found x.handlerPc) (s' := ((T.setTop (F0 m pc ls rest)).pushFrame (.throwing q)).setVm (T.vm.noted m.cls x.catchType (.cls c4))) (acts' := []) (by simp [hF _ _ _ _]; rfl)
    exact ⟨rfl, ha⟩
  rw [stepThread_throwing (frames_entered X.here.top _), (hst _).1]
  obtain ⟨g₀, hg⟩ := Option.isSome_iff_exists.mp X.here.top
  obtain ⟨r, hr⟩ := State.topJava?_eq_some.mp hg
  have hr' : (T.setVm (T.vm.noted m.cls x.catchType (.cls c4))).frames = .java g₀ :: r := hr
  have hfs : ∀ (u : State) (v : Vm) (A B : List Frame), ((u.setFrames A).setVm v).setFrames B = (u.setVm v).setFrames B := by
    intro u v A B
    have h1 : (u.setFrames A).setVm v = (u.setVm v).setFrames A := rfl
    rw [h1, State.setFrames_setFrames]
  rw [State.setTop_of_frames _ hr'] at a1
  rw [hr, List.tail_cons, State.pushFrame, hfs, State.setTop_of_frames _ hr, hfs]
  exact a1
end PXC
def px_X (b : Nat) (U : State) : Prop := vx_Zq Bundle.tN "UNASSIGNED_STACK" Bundle.steD (fun q => b ≤ q) U U.heap ∧ vx_Zq Bundle.tN "SUPPRESSED_SENTINEL" Bundle.listD (fun q => b ≤ q) U U.heap ∧ (∃ sa, vk_R "TriangleSets" 219 "b is 0" sa U) ∧ ∀ w ∈ px_B, va_Nw w U
theorem px_Bw {w : Cond} {s U : State} (h : w ∈ px_B) (hW : s.WarmedH U.vm) (hZ : va_Nw w s) : va_Nw w U := by
  have h1 := (List.mem_filter.mp h).2
  cases w <;> first | exact va_Nw.warmD hW hZ | exact va_Nw.warmC hW hZ | (cases h1; done)
theorem px_Bt {w : Cond} (h : w ∈ px_B) : w.onTables = true := by
  have h1 := (List.mem_filter.mp h).2
  cases w <;> first | rfl | (cases h1; done)
theorem px_X.to {b : Nat} {s U : State} (hW : s.WarmedH U.vm) (hq : ∀ a : Nat, a < s.heap.size → ¬ b ≤ a → U.heap[a]? = s.heap[a]?) (h : px_X b s) : px_X b U := by
  obtain ⟨h1, h2, ⟨sa, h3⟩, h4⟩ := h
  exact ⟨(vx_Zq.moved hW.alike h1).kept hq, (vx_Zq.moved hW.alike h2).kept hq, ⟨sa, h3.warm hW⟩, fun w hw => px_Bw hw hW (h4 w hw)⟩
theorem px_X.call {b : Nat} {U : State} {g : JFrame} {mk : MethodId} {a : Array Value} (h : px_X b U) : px_X b (U.calling g mk a) := by
  obtain ⟨h1, h2, ⟨sa, h3⟩, h4⟩ := h
  exact ⟨vx_Zq.moved (u := U) (U := U.calling g mk a) (Vm.Alike.refl U.vm) h1, vx_Zq.moved (u := U) (U := U.calling g mk a) (Vm.Alike.refl U.vm) h2, ⟨sa, vk_R.same (u := U) (U := U.calling g mk a) rfl h3⟩, fun w hw => va_Nw.same (u := U) (U := U.calling g mk a) (px_Bt hw) rfl (h4 w hw)⟩
def px_Pc (D : va_G) (ct : Nat → ClassId) (bs b L : Nat) (xs : Nat → Int32) (as : List Value) (vh : vm_H) : Array Value → State → Prop := va_Pc (as.map (vm_rv bs b)) (fun U => vm_R D ct bs b L xs vh U U.heap ∧ vm_K D ct U ∧ px_X b U)
theorem px_blind (D : va_G) (ct : Nat → ClassId) (bs b L : Nat) (xs : Nat → Int32) (as : List Value) (vh : vm_H) : FrameBlind (px_Pc D ct bs b L xs as vh) :=
  fun a U g mk q => ⟨q.1, vm_R.moved (u := U) (U := U.calling g mk a) (Vm.Alike.refl U.vm) q.2.1, vm_K.same (u := U) (U := U.calling g mk a) rfl q.2.2.1, q.2.2.2.call⟩
theorem vm_R.junk {D : va_G} {ct : Nat → ClassId} {bs b L : Nat} {xs : Nat → Int32} {vh : vm_H} {U : State} {H H1 : Heap} (h : vm_R D ct bs b L xs vh U H) (hz : H.size ≤ H1.size) (hq : ∀ q : Nat, q < H.size → H1[q]? = H[q]?) : vm_R D ct bs b L xs (vh ++ List.replicate (H1.size - H.size) none) U H1 := by
  have hlo := h.lo
  obtain ⟨h1, h2, h3, h4, h5⟩ := h
  have hl : 0 < vh.length := (List.getElem?_eq_some_iff.mp h2).1
  refine ⟨by rw [List.length_append, List.length_replicate]; omega, by rw [List.getElem?_append_left hl]; exact h2, h3, h4.kept (hq bs hlo.2), fun i d hd => ?_⟩
  by_cases hi : i + 1 < vh.length
  · rw [List.getElem?_append_left hi] at hd
    exact (h5 i d hd).kept (hq (b + i) (by omega))
  · rw [List.getElem?_append_right (by omega)] at hd
    have := List.mem_of_getElem? hd
    rw [List.mem_replicate] at this
    cases this.2
/-- the cells behind a throw: as before, and some of which nothing is said -/
def px_J (D : va_G) (ct : Nat → ClassId) (bs b L : Nat) (xs : Nat → Int32) (vh : vm_H) (t : State) : Prop := ∃ j : Nat, vm_R D ct bs b L xs (vh ++ List.replicate j none) t t.heap
def px_XC (D : va_G) (ct : Nat → ClassId) (bs b L : Nat) (xs : Nat → Int32) (vh : vm_H) : String → State → State → Prop := fun E st t => E = px_E ∧ px_J D ct bs b L xs vh t ∧ va_F (fun q => b ≤ q) st t
theorem px_walk (vh : vm_H) (n : Nat) (a : Int64) : vm_Wo 0 0 58 (0, lv_args 0 [.ref n, .long a, .long 0], []) vh (fun fr vh1 => fr.1 = 6 ∧ fr.2.2 = [] ∧ vh1 = vh) := by
  refine wo_x e58_0 rfl ?_
  refine wo_x e58_1 rfl ?_
  refine wo_x e58_2 rfl ?_
  refine wo_if0 e58_3 (by decide) ?_
  exact wo_end ⟨rfl, rfl, rfl⟩
set_option maxHeartbeats 4000000 in
theorem px_throw (l : Launch) (hl : l.stackTraces = false) (D : va_G) (ct : Nat → ClassId) (bs b L : Nat) (xs : Nat → Int32) (vh : vm_H) (n : Nat) (a : Int64) :
    vx_Met l (vm_name 58) (Cond.code (vm_name 58) (vm_code 58) (vm_max 58) (vm_ret 58) :: vm_ws) { frames := 6, cells := 1, slots := 6, locals := 82 } (px_Pc D ct bs b L xs [.ref n, .long a, .long 0] vh) (fun _ _ _ _ => False) (px_XC D ct bs b L xs vh) 1 6 (fun q => b ≤ q) := by
  refine vx_ofW (cc := vm_code 58) (maxL := vm_max 58) (ret := vm_ret 58) (by decide) rfl ?_
  intro p e s m args below meth c s₁ B hml htab hv
  obtain ⟨rfl, hR, hK, hXx⟩ := hv
  have hts0 := atoms_spec (ws := Cond.code (vm_name 58) (vm_code 58) (vm_max 58) (vm_ret 58) :: vm_ws) B.pre
  have hlk := B.notSynchronized
  have C : vm_C p s m (([.ref n, .long a, .long 0] : List Value).map (vm_rv bs b)).toArray meth c D ct 58 := ⟨B.exec, B.bytes, hml, B.returns, B.notSynchronized, (name_of_methodNamed B.named B.method).1, findClass_of_methodNamed B.named, fun w h => hts0 w (List.mem_cons_of_mem _ h), hK⟩
  have hl0 := lv_entry (([.ref n, .long a, .long 0] : List Value).map (vm_rv bs b)) (n := vm_max 58) (by rw [vm_sl_len]; exact Nat.le_of_ble_eq_true rfl)
  rw [lg_entry_eq]
  rw [vm_lm_args] at hl0
  obtain ⟨fr2, vh2, g, hf1, hf2, rfl⟩ := px_walk vh n a
  obtain ⟨pc2, ls2, st2⟩ := fr2
  have hf1 : pc2 = 6 := hf1
  have hf2 : st2 = [] := hf2
  subst hf1; subst hf2
  refine vm_sound g p l e _ s m _ below meth c _ D ct bs b L xs 0 0 C (Nat.zero_le _) (Nat.zero_le _) (Nat.zero_le _) (Nat.zero_le _) ?_ s.heap [] _ hR va_S.rf hl0
  intro H locs la hR2 hS2 hl2
  obtain ⟨hX, hb, -, hrt, -, -, hown, hts, -⟩ := id C
  obtain ⟨hU, hN, ⟨sa, hstr⟩, hBw⟩ := hXx
  have hat : ∀ w ∈ px_L, w.before (([.ref n, .long a, .long 0] : List Value).map (vm_rv bs b)).toArray s = true := vx_hat (B := px_B)
    (fun w hw => hts w (List.mem_filter.mpr ⟨px_any (List.all_eq_true.mp px_h1 w hw), (List.mem_filter.mp hw).2⟩))
    (fun w hw => by
      have h9 := List.all_eq_true.mp px_h2 w hw
      rw [Bool.and_eq_true] at h9
      exact List.mem_filter.mpr ⟨px_any h9.2, h9.1⟩)
    (fun w hw => va_Nw.use (px_Bt hw) (hBw w hw))
  exact vx_throwS (own := "TriangleSets") (cls := px_E) (text := "b is 0") (names := px_ns) (ik := 217) (is := 219) (ic := 221) (sa := sa) (A := fun q => b ≤ q) hX hb hl hown (by decide) (by decide)
    (hts _ (px_in px_h4.1 rfl)) (hts _ (px_in px_h4.2.1 rfl)) hstr hat (fun w hw => List.all_eq_true.mp px_h3 w hw) hU hN hS2 (hl2.1.trans hml.symm)
    (vm_dec e58_6) (vm_dec e58_9) (vm_dec e58_10) (vm_dec e58_12) (vm_dec e58_15) (fun x hx => (htab x hx).elim)
    (Nat.le_of_ble_eq_true rfl) (Nat.le_of_ble_eq_true rfl) (Nat.le_of_ble_eq_true rfl) (Nat.le_of_ble_eq_true rfl) hlk
    (fun t hA hz hq => ⟨rfl, ⟨_, (hR2.moved hA).junk hz hq⟩, Nat.le_trans hS2.1 hz, fun q h1 h2 => (hq q (Nat.lt_of_lt_of_le h1 hS2.1)).trans (hS2.2.1 q h1 h2)⟩)
    (fun z hz => hS2.2.2 z hz) (Nat.le_of_ble_eq_true rfl) (Nat.le_of_ble_eq_true rfl)

