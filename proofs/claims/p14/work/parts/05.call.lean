section VMCALL
variable {p : Program} {l : Launch} {e : Env} {R : Room} {s : State} {m : MethodId} {args : Array Value} {below : List Frame} {meth : Method} {c : Code} {H : Heap} {locs : List Loc} {cells slots : Nat} {Q : State → Prop}
variable {D : va_G} {ct : Nat → ClassId} {bs b L : Nat} {xs : Nat → Int32} {la : Array Slot}
/-- a copy within arrays of one primitive kind: the heap behind it is the one with the target's cell anew -/
theorem vm_cpG {α : Type} (mk : α → Value) {cc : ByteArray} {own : String} {index pc a a0 n0 n1 : Nat} {rest : List Value} {cA : ClassId} {ty : FieldType} {f g : Nat → α} {sp dp n : Int32}
    (hexec : p.tables.exec = Jvm.exec) (hb : c.code = cc) (hml : c.maxLocals = la.size) (hown : s.vm.findClass own = some m.cls) (hlink : (Cond.methodLink own index arraycopyName).before args s = true) (hnat : (Cond.native arraycopyName).before args s = true) (hstat : (Cond.static arraycopyName).before args s = true) (hini : (Cond.initialized "java/lang/System").before args s = true)
    (hA : ArrOfT s cA ty) (hprim : refKind ty = false) (hfit : ∀ x, fits ty (mk x) = true) (htk : ∀ (U : State) (k : ClassId) (x : α), U.takes k (mk x))
    (hc0 : H[a0]? = some (arrV cA n0 (fun j => mk (f j)))) (hc1 : H[a]? = some (arrV cA n1 (fun j => mk (g j))))
    (h1 : ¬ sp < 0) (h2 : ¬ dp < 0) (h3 : ¬ n < 0) (h4 : sp.toNatClampNeg + n.toNatClampNeg ≤ n0) (h5 : dp.toNatClampNeg + n.toNatClampNeg ≤ n1)
    (hfr : 1 ≤ R.frames) (hlo : (rest.map fun v => v.category).sum + (nativeFrameWords "java/lang/System" "arraycopy" 5 + 11) ≤ R.locals) (hdg : decode cc pc = .ok (.invokestatic index, 3))
    (kk : ∀ L1 : List Loc, (∀ q ∈ L1, q.base = a) → W p l e R s m args below meth c (H.setIfInBounds a (arrV cA n1 (fun j => mk (va_cpy f g sp.toNatClampNeg dp.toNatClampNeg n.toNatClampNeg j)))) (locs ++ L1) cells slots Q (F0 m (pc + 3) la rest)) :
    W p l e R s m args below meth c H locs cells slots Q (F0 m pc la (.int n :: .int dp :: .ref a :: .int sp :: .ref a0 :: rest)) := by
  have nn : ∀ z : Int32, ¬ z < 0 → z.toInt = (z.toNatClampNeg : Int) := by
    intro z hz
    have h := Int32.le_iff_toInt_le.mp (Int32.not_lt.mp hz)
    rw [Int32.toInt_zero] at h
    exact (Int.toNat_of_nonneg h).symm
  intro T hT X
  obtain ⟨-, k0, hk0, cm0, hkk0⟩ := hA n0 (fun j => mk (f j))
  obtain ⟨-, k1, hk1, cm1, hkk1⟩ := hA n1 (fun j => mk (g j))
  obtain ⟨vm', X', step⟩ := X.arraycopy hexec hown hlink hnat hstat hini (src := a0) (dst := a) (srcPos := sp) (destPos := dp) (n := n) (by rw [hT]; exact hc0) (by rw [hT]; exact hc1)
    (fun _ h => by cases h) (fun _ h => by cases h) (fun h => by cases h) (fun h => by cases h) hk0 hk1 hkk0 hkk1 (by simp [hprim]) h1 h2 h3 (by rw [nn sp h1, nn n h3, arrV_size]; omega) (by rw [nn dp h2, nn n h3, arrV_size]; omega)
    (fun vm1 _ i hi => by
      have e1 : (arrV cA n0 (fun j => mk (f j))).slots.getD (sp.toNatClampNeg + i) .null = mk (f (sp.toNatClampNeg + i)) := by
        rw [Array.getD_eq_getD_getElem?, arrV_read _ _ (by omega)]
        rfl
      rw [e1]
      exact ⟨hfit _, htk _ _ _⟩)
    (g := F0 m pc la (.int n :: .int dp :: .ref a :: .int sp :: .ref a0 :: rest)) rfl (by rw [hml]) (rest := rest) rfl (by rw [hb]; exact hdg) hfr (by show 2 * 0 + _ + _ ≤ _; omega)
  have e1 : copied (arrV cA n0 (fun j => mk (f j))) (arrV cA n1 (fun j => mk (g j))) sp dp n = arrV cA n1 (fun j => mk (va_cpy f g sp.toNatClampNeg dp.toNatClampNeg n.toNatClampNeg j)) := va_copied mk cA cA f g h4
  rw [e1] at X' step
  obtain ⟨t, a1, b1⟩ := kk _ (fun q hq => by
    obtain ⟨z, -, hz⟩ := List.mem_map.mp hq
    rw [← hz]) _ (by rw [← hT]; rfl) X'
  exact ⟨t, step t a1, b1⟩
/-- behind a call -/
theorem vm_after {mx pc n1 s1 : Nat} {ls : vm_L} {st0 rest0 : List Value} {rest : List Value} {a : Array Value} {r : Option Value} {vh1 : vm_H} (hl : lv_has la mx (vm_lm bs b ls)) (hrest : rest = rest0.map (vm_rv bs b))
    (hr : va_Run p l e R s m args below meth c H locs cells slots n1 s1 (F0 m pc la st0) rest (vm_Qc D ct bs b L xs r vh1 a) (fun q => b ≤ q)) (hS : va_S (fun q => b ≤ q) s.heap H locs)
    (kk : vm_On p l e R s m args below meth c Q D ct bs b L xs mx (pc + 3, ls, r.toList ++ rest0) vh1 (cells + n1) (slots + s1)) : W p l e R s m args below meth c H locs cells slots Q (F0 m pc la st0) := by
  intro T hT X
  obtain ⟨v, st₀, t, T', L', h0, X', hL, e1, e2, ⟨hv, hR1, hz, hk⟩, st⟩ := hr T hT X
  have hv : v = r.map (vm_rv bs b) := Outcome.returned.inj hv
  rw [h0] at hz hk
  have hA : s.vm.Alike t.vm := by rw [← e2]; exact X'.warmed.alike
  obtain ⟨t2, a1, b1⟩ := kk T'.heap (locs ++ L') la (by rw [e1]; exact hR1.moved hA.symm)
    ⟨Nat.le_trans hS.1 (by rw [e1]; exact hz), fun q h1 h2 => by rw [e1, hk q (Nat.lt_of_lt_of_le h1 hS.1) h2]; exact hS.2.1 q h1 h2, fun q hq => by
      rcases List.mem_append.mp hq with h | h
      · exact hS.2.2 q h
      · exact hL q h⟩ hl T' rfl X'
  refine ⟨t2, st t2 ?_, b1⟩
  have e9 : v.toList ++ rest = (r.toList ++ rest0).map (vm_rv bs b) := by
    rw [hv, hrest, List.map_append]
    cases r <;> rfl
  rw [e9]
  exact a1
theorem vm_pre {as : List Value} {vh : vm_H} (hR : vm_R D ct bs b L xs vh s H) (hK : vm_K D ct s) : PreS s H (vm_Pc D ct bs b L xs as vh) (as.map (vm_rv bs b)) :=
  ⟨vm_blind D ct bs b L xs as vh, fun U hU hW => ⟨rfl, by rw [hU]; exact hR.moved hW.alike, hK.moved hW⟩⟩
theorem vm_stk {na : Nat} (st : List Value) : st.map (vm_rv bs b) = ((st.take na).reverse.map (vm_rv bs b)).reverse ++ (st.drop na).map (vm_rv bs b) := by
  rw [← List.map_reverse, List.reverse_reverse, ← List.map_append, List.take_append_drop]
variable {k pc j d1 w1 n1 s1 : Nat} {ls : vm_L} {st : List Value} {vh vh1 : vm_H} {fr1 frR : vm_F} {as : List Value} {r : Option Value}
set_option maxHeartbeats 4000000 in
theorem vm_callrow (C : vm_C p s m args meth c D ct k) (hcl : vm_cl k (pc, ls, st) vh = some (j, as, fr1)) (hd : d1 + 1 ≤ R.frames) (hw : 19 + vm_max j + w1 ≤ R.locals) (ih : vm_Snd d1 w1 j (0, lv_args 0 as, []) vh (frR, vh1, n1, s1)) (hrt : vm_rt j frR = some r) (hc : cells + n1 ≤ R.cells) (hs : slots + s1 ≤ R.slots)
    (kk : vm_On p l e R s m args below meth c Q D ct bs b L xs (vm_max k) (fr1.1, fr1.2.1, r.toList ++ fr1.2.2) vh1 (cells + n1) (slots + s1)) : vm_On p l e R s m args below meth c Q D ct bs b L xs (vm_max k) (pc, ls, st) vh cells slots := by
  intro H locs la hR hS hl
  have hl : lv_has la (vm_max k) (vm_lm bs b ls) := hl
  show W p l e R s m args below meth c H locs cells slots Q (F0 m pc la (st.map (vm_rv bs b)))
  obtain ⟨hX, hb, hml, hr, hlk, hnm, hown, hts, hK⟩ := id C
  have hrm : (⟨d1, n1, s1, w1⟩ : Room).frames + 1 ≤ R.frames ∧ 8 + (vm_max j + 11) + (⟨d1, n1, s1, w1⟩ : Room).locals ≤ R.locals := ⟨hd, by show 8 + (vm_max j + 11) + w1 ≤ _; omega⟩
  unfold vm_cl at hcl
  split at hcl
  next o j' z he =>
    have hdg := vm_dec he
    simp only [vm_cs] at hcl
    split at hcl
    next hg =>
      simp only [Option.some.injEq, Prod.mk.injEq] at hcl
      obtain ⟨rfl, rfl, rfl⟩ := hcl
      obtain ⟨⟨hj, hk1⟩, hlink⟩ := vm_ivok he
      have h0 : (vm_mp j').1 ≠ 0 := by rw [hk1]; decide
      have F := vm_mfacts hj h0
      exact vm_after hl rfl (va_runS (As := (st.take (vm_na j')).reverse.map (vm_rv bs b)) (rest := (st.drop (vm_na j')).map (vm_rv bs b)) ⟨hX, hb, hml, hown, hts⟩ (vm_met l D ct bs b L xs hj h0 hg.2.2 ih hrt) ⟨callB_of (vm_na j') hts (vm_good j' hj h0) rfl rfl rfl (hts _ F.2.2.1) (hts _ hlink) F.2.2.2.1 hrm, hts _ (F.2.2.2.2.1 hk1)⟩ (vm_pre hR hK) rfl (by rw [List.length_map, List.length_reverse, List.length_take]; omega) hl.1 (vm_stk st) (lv_room (by rw [vm_sum_cat]; exact hg.2.1)) hdg ⟨hc, hs⟩) hS kk
    next => cases hcl
  next o j' z he =>
    have hdg := vm_dec he
    simp only [vm_cs] at hcl
    split at hcl
    next hg =>
      simp only [Option.some.injEq, Prod.mk.injEq] at hcl
      obtain ⟨rfl, rfl, rfl⟩ := hcl
      obtain ⟨⟨hj, hk1⟩, hlink⟩ := vm_ivok3 he
      have h0 : (vm_mp j').1 ≠ 0 := by rw [hk1]; decide
      have F := vm_mfacts hj h0
      exact vm_after hl rfl (va_runSN (As := (st.take (vm_na j')).reverse.map (vm_rv bs b)) (rest := (st.drop (vm_na j')).map (vm_rv bs b)) ⟨hX, hb, hml, hown, hts⟩ (vm_met l D ct bs b L xs hj h0 hg.2.2 ih hrt) ⟨va_cnB (vm_na j') hts (vm_good j' hj h0) rfl rfl rfl (hK.2.2.2 _ hlink) (hts _ F.2.2.1) F.2.2.2.1 hrm, hts _ (F.2.2.2.2.1 hk1), trivial⟩ (vm_pre hR hK) rfl (by rw [List.length_map, List.length_reverse, List.length_take]; omega) hl.1 (vm_stk st) (lv_room (by rw [vm_sum_cat]; exact hg.2.1)) hdg ⟨hc, hs⟩) hS kk
    next => cases hcl
  next o j' z he =>
    have hdg := vm_dec he
    obtain ⟨⟨hj, hk1⟩, hlink⟩ := vm_ivok4 he
    have h0 : (vm_mp j').1 ≠ 0 := by rw [hk1]; decide
    have F := vm_mfacts hj h0
    simp only [vm_cv] at hcl
    split at hcl
    next n rr hdrop =>
      split at hcl
      next ci fs hat =>
        split at hcl
        next hg =>
          simp only [Option.some.injEq, Prod.mk.injEq] at hcl
          obtain ⟨rfl, rfl, rfl⟩ := hcl
          have hci : ci = vm_ci j' := hg.1 trivial
          have hcell : va_at D vm_cls (vm_ra bs b n, .inr (ci, fs.map (vm_rv bs b))) H := hR.cell (hR.ne0 hat (by intro q; cases q)) hat
          have hF3 := (F.2.2.2.2.2.2 hk1).2.2
          rw [← hci] at hF3
          obtain ⟨q, hq, hq1⟩ : ∃ q : vw_C, vm_cls[ci]? = some q ∧ q.1 = (vm_name j').cls := by
            cases hcq : vm_cls[ci]? with
            | none => rw [hcq] at hF3; cases hF3
            | some q => rw [hcq] at hF3; exact ⟨q, rfl, Option.some.inj hF3⟩
          have hrecv := va_recv hK.1 (vm_P1 hcell) hq (q0 := 0) rfl
          rw [hq1] at hrecv
          have hpre := vm_pre (as := .ref n :: (st.take (vm_na j')).reverse) hR hK
          have hstk : st.map (vm_rv bs b) = ((st.take (vm_na j')).reverse.map (vm_rv bs b)).reverse ++ .ref (vm_ra bs b n) :: rr.map (vm_rv bs b) := by
            have h9 := vm_stk (bs := bs) (b := b) (na := vm_na j') st
            rw [hdrop] at h9
            exact h9
          exact vm_after hl rfl (va_runV (As := (st.take (vm_na j')).reverse.map (vm_rv bs b)) (rest := rr.map (vm_rv bs b)) (b := vm_ra bs b n) ⟨hX, hb, hml, hown, hts⟩ (vm_met l D ct bs b L xs hj h0 hg.2.2.2 ih hrt) ⟨callB_of (vm_na j') hts (vm_good j' hj h0) rfl rfl rfl (hts _ F.2.2.1) (hts _ hlink) F.2.2.2.1 hrm, hts _ (F.2.2.2.2.2.2 hk1).1, hts _ (F.2.2.2.2.2.2 hk1).2.1⟩ ⟨hpre.1, hrecv, hpre.2⟩ rfl (by rw [List.length_map, List.length_reverse, List.length_take]; omega) hl.1 hstk (lv_room (by rw [vm_sum_cat]; exact hg.2.2.1)) hdg ⟨hc, hs⟩) hS kk
        next => cases hcl
      next => cases hcl
    next => cases hcl
  next o j' z he =>
    have hdg := vm_dec he
    obtain ⟨⟨hj, hk1⟩, hlink⟩ := vm_ivok5 he
    have h0 : (vm_mp j').1 ≠ 0 := by rw [hk1]; decide
    have F := vm_mfacts hj h0
    simp only [vm_cv] at hcl
    split at hcl
    next n rr hdrop =>
      split at hcl
      next ci fs hat =>
        split at hcl
        next hg =>
          simp only [Option.some.injEq, Prod.mk.injEq] at hcl
          obtain ⟨rfl, rfl, rfl⟩ := hcl
          have hci : ci = vm_ci j' := hg.1 trivial
          have hcell : va_at D vm_cls (vm_ra bs b n, .inr (ci, fs.map (vm_rv bs b))) H := hR.cell (hR.ne0 hat (by intro q; cases q)) hat
          have hF3 := (F.2.2.2.2.2.2 hk1).2.2
          rw [← hci] at hF3
          obtain ⟨q, hq, hq1⟩ : ∃ q : vw_C, vm_cls[ci]? = some q ∧ q.1 = (vm_name j').cls := by
            cases hcq : vm_cls[ci]? with
            | none => rw [hcq] at hF3; cases hF3
            | some q => rw [hcq] at hF3; exact ⟨q, rfl, Option.some.inj hF3⟩
          have hrecv := va_recv hK.1 (vm_P1 hcell) hq (q0 := 0) rfl
          rw [hq1] at hrecv
          have hpre := vm_pre (as := .ref n :: (st.take (vm_na j')).reverse) hR hK
          have hstk : st.map (vm_rv bs b) = ((st.take (vm_na j')).reverse.map (vm_rv bs b)).reverse ++ .ref (vm_ra bs b n) :: rr.map (vm_rv bs b) := by
            have h9 := vm_stk (bs := bs) (b := b) (na := vm_na j') st
            rw [hdrop] at h9
            exact h9
          exact vm_after hl rfl (va_runVN (As := (st.take (vm_na j')).reverse.map (vm_rv bs b)) (rest := rr.map (vm_rv bs b)) (b := vm_ra bs b n) ⟨hX, hb, hml, hown, hts⟩ (vm_met l D ct bs b L xs hj h0 hg.2.2.2 ih hrt) ⟨va_cnB (vm_na j') hts (vm_good j' hj h0) rfl rfl rfl (hK.2.2.2 _ hlink) (hts _ F.2.2.1) F.2.2.2.1 hrm, hts _ (F.2.2.2.2.2.2 hk1).1, hts _ (F.2.2.2.2.2.2 hk1).2.1⟩ ⟨hpre.1, hrecv, hpre.2⟩ rfl (by rw [List.length_map, List.length_reverse, List.length_take]; omega) hl.1 hstk (lv_room (by rw [vm_sum_cat]; exact hg.2.2.1)) hdg ⟨hc, hs⟩) hS kk
        next => cases hcl
      next => cases hcl
    next => cases hcl
  next o j' z he =>
    have hdg := vm_dec he
    obtain ⟨⟨hj, hk1⟩, hlink⟩ := vm_ivok6 he
    have h0 : (vm_mp j').1 ≠ 0 := by rw [hk1]; decide
    have F := vm_mfacts hj h0
    have hF2 := F.2.2.2.2.2.1 hk1
    simp only [vm_cv] at hcl
    split at hcl
    next n rr hdrop =>
      split at hcl
      next ci fs hat =>
        split at hcl
        next hg =>
          simp only [Option.some.injEq, Prod.mk.injEq] at hcl
          obtain ⟨rfl, rfl, rfl⟩ := hcl
          have hpre := vm_pre (as := .ref n :: (st.take (vm_na j')).reverse) hR hK
          have hstk : st.map (vm_rv bs b) = ((st.take (vm_na j')).reverse.map (vm_rv bs b)).reverse ++ .ref (vm_ra bs b n) :: rr.map (vm_rv bs b) := by
            have h9 := vm_stk (bs := bs) (b := b) (na := vm_na j') st
            rw [hdrop] at h9
            exact h9
          have hM := vm_met l D ct bs b L xs hj h0 hg.2.2.2 ih hrt
          have hG := vm_good j' hj h0
          rw [hF2.2.2] at hM hG
          exact vm_after hl rfl (va_runI (As := (st.take (vm_na j')).reverse.map (vm_rv bs b)) (rest := rr.map (vm_rv bs b)) (b := vm_ra bs b n) ⟨hX, hb, hml, hown, hts⟩ hM ⟨callB_of (vm_na j') hts hG rfl rfl rfl (hts _ F.2.2.1) (hts _ hlink) F.2.2.2.1 hrm, hF2.2.1, hts _ hF2.1⟩ hpre rfl (by rw [List.length_map, List.length_reverse, List.length_take]; omega) hl.1 hstk (lv_room (by rw [vm_sum_cat]; exact hg.2.2.1)) hdg ⟨hc, hs⟩) hS kk
        next => cases hcl
      next => cases hcl
    next => cases hcl
  next o j' z he =>
    have hdg := vm_dec he
    obtain ⟨⟨hj, hk1⟩, hlink⟩ := vm_ivok7 he
    have h0 : (vm_mp j').1 ≠ 0 := by rw [hk1]; decide
    have F := vm_mfacts hj h0
    have hF2 := F.2.2.2.2.2.1 hk1
    simp only [vm_cv] at hcl
    split at hcl
    next n rr hdrop =>
      split at hcl
      next ci fs hat =>
        split at hcl
        next hg =>
          simp only [Option.some.injEq, Prod.mk.injEq] at hcl
          obtain ⟨rfl, rfl, rfl⟩ := hcl
          have hpre := vm_pre (as := .ref n :: (st.take (vm_na j')).reverse) hR hK
          have hstk : st.map (vm_rv bs b) = ((st.take (vm_na j')).reverse.map (vm_rv bs b)).reverse ++ .ref (vm_ra bs b n) :: rr.map (vm_rv bs b) := by
            have h9 := vm_stk (bs := bs) (b := b) (na := vm_na j') st
            rw [hdrop] at h9
            exact h9
          have hM := vm_met l D ct bs b L xs hj h0 hg.2.2.2 ih hrt
          have hG := vm_good j' hj h0
          rw [hF2.2.2] at hM hG
          exact vm_after hl rfl (va_runIN (As := (st.take (vm_na j')).reverse.map (vm_rv bs b)) (rest := rr.map (vm_rv bs b)) (b := vm_ra bs b n) ⟨hX, hb, hml, hown, hts⟩ hM ⟨va_cnB (vm_na j') hts hG rfl rfl rfl (hK.2.2.2 _ hlink) (hts _ F.2.2.1) F.2.2.2.1 hrm, hF2.2.1, hts _ hF2.1⟩ hpre rfl (by rw [List.length_map, List.length_reverse, List.length_take]; omega) hl.1 hstk (lv_room (by rw [vm_sum_cat]; exact hg.2.2.1)) hdg ⟨hc, hs⟩) hS kk
        next => cases hcl
      next => cases hcl
    next => cases hcl
  next => cases hcl
theorem vm_ntrow {vh1 : vm_H} (C : vm_C p s m args meth c D ct k) (hnt : vm_nt k (pc, ls, st) vh = some (fr1, vh1)) (hd : 1 ≤ R.frames) (hw : 30 ≤ R.locals) (hc1 : cells ≤ R.cells) (hs1 : slots ≤ R.slots) (kk : vm_On p l e R s m args below meth c Q D ct bs b L xs (vm_max k) fr1 vh1 cells slots) : vm_On p l e R s m args below meth c Q D ct bs b L xs (vm_max k) (pc, ls, st) vh cells slots := by
  intro H locs la hR hS hl
  have hl : lv_has la (vm_max k) (vm_lm bs b ls) := hl
  show W p l e R s m args below meth c H locs cells slots Q (F0 m pc la (st.map (vm_rv bs b)))
  obtain ⟨hX, hb, hml, hr, hlk, hnm, hown, hts, hK⟩ := id C
  unfold vm_nt at hnt
  split at hnt
  next o x z he =>
    have hdg := vm_dec he
    split at hnt
    next n rr hst =>
      split at hnt
      next hg =>
        simp only [Option.some.injEq, Prod.mk.injEq] at hnt
        obtain ⟨h1, h2⟩ := hnt
        subst h1
        subst h2
        have hst : st = .ref n :: rr := hst
        subst hst
        refine W.objInit hX hb hown (hts _ (vm_ivok8 he)) (hts _ (vm_has_in vm_oI0.1)) (hts _ (vm_has_in vm_oI0.2)) rfl (by rw [hml]; exact hl.1) rfl hdg hd ?_ (kk H locs la hR hS hl)
        have h9 := lv_room (m := m) (pc := pc) (ls := la) (rest := ([] : List Value)) (st := rr.map (vm_rv bs b)) (by rw [vm_sum_cat]; exact hg)
        have h8 : (F0 m pc la (List.map (vm_rv bs b) (.ref n :: rr))).monitorRoom = (F0 m pc la ([] : List Value)).monitorRoom := rfl
        rw [h8]
        omega
      next => cases hnt
    next => cases hnt
  next o x z he =>
    have hdg := vm_dec he
    split at hnt
    next n dp a sp a0 rr hst =>
      have hst : st = .int n :: .int dp :: .ref a :: .int sp :: .ref a0 :: rr := hst
      split at hnt
      next hg =>
        split at hnt
        next vh2 hcp =>
          simp only [Option.some.injEq, Prod.mk.injEq] at hnt
          obtain ⟨h1, h2⟩ := hnt
          subst h1
          subst h2
          subst hst
          have hlo : ((rr.map (vm_rv bs b)).map fun v => v.category).sum + (nativeFrameWords "java/lang/System" "arraycopy" 5 + 11) ≤ R.locals := by
            have h8 : nativeFrameWords "java/lang/System" "arraycopy" 5 = 7 := by decide
            rw [vm_sum_cat, h8]
            omega
          unfold vm_acp at hcp
          split at hcp
          next n0 f n1 g hat0 hat1 =>
            split at hcp
            next hc =>
              cases hcp
              have z0 := hR.ne0 hat0 (by intro q; cases q)
              have z1 := hR.ne0 hat1 (by intro q; cases q)
              have c0 : H[vm_ra bs b a0]? = some (arrV (ct 1) n0 (fun j => .long (f j))) := hR.cell z0 hat0
              have c1 : H[vm_ra bs b a]? = some (arrV (ct 1) n1 (fun j => .long (g j))) := hR.cell z1 hat1
              have hlt : vm_ra bs b a < H.size := (Array.getElem?_eq_some_iff.mp c1).1
              refine vm_cpG (fun z : Int64 => .long z) hX hb (by rw [hml]; exact hl.1.symm) hown (hts _ (vm_ivok9 he)) (hts _ (vm_has_in vm_ac0.1)) (hts _ (vm_has_in vm_ac0.2.1)) (hts _ (vm_has_in vm_ac0.2.2)) (hK.1.2 1 (ct 1, .long) rfl).1 rfl (fun _ => rfl) (fun _ _ _ => trivial) c0 c1 hc.1 hc.2.1 hc.2.2.1 hc.2.2.2.1 hc.2.2.2.2 hd hlo hdg (fun L1 hL1 => ?_)
              refine kk _ _ la (hR.put z1 (vm_at_lt hat1) (by simp) (fun q hq => by simp [Array.getElem?_setIfInBounds, Ne.symm hq]) ?_) ⟨by simp; exact hS.1, fun q g1 g2 => ?_, fun q hq => ?_⟩ hl
              · show (H.setIfInBounds (vm_ra bs b a) _)[vm_ra bs b a]? = some _
                rw [Array.getElem?_setIfInBounds_self_of_lt hlt]
                rfl
              · have hne : q ≠ vm_ra bs b a := fun e => g2 (by rw [e]; exact hR.ge z1)
                rw [← hS.2.1 q g1 g2]
                simp [Array.getElem?_setIfInBounds, Ne.symm hne]
              · rcases List.mem_append.mp hq with h | h
                · exact hS.2.2 q h
                · show b ≤ q.base
                  rw [hL1 q h]
                  exact hR.ge z1
            next => cases hcp
          next n0 f n1 g hat0 hat1 =>
            split at hcp
            next hc0 =>
              obtain ⟨⟨z0, z1⟩, hc⟩ := hc0
              cases hcp
              have c0 : H[vm_ra bs b a0]? = some (arrV (ct 0) n0 (fun j => .int (f j))) := hR.cell z0 hat0
              have c1 : H[vm_ra bs b a]? = some (arrV (ct 0) n1 (fun j => .int (g j))) := hR.cell z1 hat1
              have hlt : vm_ra bs b a < H.size := (Array.getElem?_eq_some_iff.mp c1).1
              refine vm_cpG (fun z : Int32 => .int z) hX hb (by rw [hml]; exact hl.1.symm) hown (hts _ (vm_ivok9 he)) (hts _ (vm_has_in vm_ac0.1)) (hts _ (vm_has_in vm_ac0.2.1)) (hts _ (vm_has_in vm_ac0.2.2)) (hK.1.2 0 (ct 0, .int) rfl).1 rfl (fun _ => rfl) (fun _ _ _ => trivial) c0 c1 hc.1 hc.2.1 hc.2.2.1 hc.2.2.2.1 hc.2.2.2.2 hd hlo hdg (fun L1 hL1 => ?_)
              refine kk _ _ la (hR.put z1 (vm_at_lt hat1) (by simp) (fun q hq => by simp [Array.getElem?_setIfInBounds, Ne.symm hq]) ?_) ⟨by simp; exact hS.1, fun q g1 g2 => ?_, fun q hq => ?_⟩ hl
              · show (H.setIfInBounds (vm_ra bs b a) _)[vm_ra bs b a]? = some _
                rw [Array.getElem?_setIfInBounds_self_of_lt hlt]
                rfl
              · have hne : q ≠ vm_ra bs b a := fun e => g2 (by rw [e]; exact hR.ge z1)
                rw [← hS.2.1 q g1 g2]
                simp [Array.getElem?_setIfInBounds, Ne.symm hne]
              · rcases List.mem_append.mp hq with h | h
                · exact hS.2.2 q h
                · show b ≤ q.base
                  rw [hL1 q h]
                  exact hR.ge z1
            next => cases hcp
          next => cases hcp
        next => cases hnt
      next => cases hnt
    next => cases hnt
  next o x0 z he =>
    have hdg := vm_dec he
    split at hnt
    next yy xx rr hst =>
      have hst : st = .int yy :: .int xx :: rr := hst
      split at hnt
      next hg =>
        simp only [Option.some.injEq, Prod.mk.injEq] at hnt
        obtain ⟨h1, h2⟩ := hnt
        subst h1
        subst h2
        subst hst
        exact va_mmax hX hb (by rw [hml]; exact hl.1.symm) hown (hts _ (vm_ivok10 he)) (hts _ (vm_has_in vm_ma10.1)) (hts _ (vm_has_in vm_ma10.2)) (hts _ vm_md10) hd (by rw [vm_sum_cat]; omega) hc1 hs1 hdg (kk H locs la hR hS hl)
      next => cases hnt
    next => cases hnt
  next o x0 z he =>
    have hdg := vm_dec he
    split at hnt
    next yy xx rr hst =>
      have hst : st = .int yy :: .int xx :: rr := hst
      split at hnt
      next hg =>
        simp only [Option.some.injEq, Prod.mk.injEq] at hnt
        obtain ⟨h1, h2⟩ := hnt
        subst h1
        subst h2
        subst hst
        exact va_mmin hX hb (by rw [hml]; exact hl.1.symm) hown (hts _ (vm_ivok11 he)) (hts _ (vm_has_in vm_ma11.1)) (hts _ (vm_has_in vm_ma11.2)) (hts _ vm_md11) hd (by rw [vm_sum_cat]; omega) hc1 hs1 hdg (kk H locs la hR hS hl)
      next => cases hnt
    next => cases hnt
  next o x0 z he =>
    have hdg := vm_dec he
    split at hnt
    next xx rr hst =>
      have hst : st = .long xx :: rr := hst
      split at hnt
      next hg =>
        simp only [Option.some.injEq, Prod.mk.injEq] at hnt
        obtain ⟨h1, h2⟩ := hnt
        subst h1
        subst h2
        subst hst
        exact va_mabs_long hX hb (by rw [hml]; exact hl.1.symm) hown (hts _ (vm_ivok12 he)) (hts _ (vm_has_in vm_ma12.1)) (hts _ (vm_has_in vm_ma12.2)) (hts _ vm_md12) hd (by rw [vm_sum_cat]; omega) hc1 hs1 hdg (kk H locs la hR hS hl)
      next => cases hnt
    next => cases hnt
  next => cases hnt
end VMCALL
/-- what the numbered machine reaches, the JVM reaches -/
theorem vm_sound {d w k : Nat} {fr : vm_F} {vh : vm_H} {o : vm_F × vm_H × Nat × Nat} (h : vm_Go d w k fr vh o) : vm_Snd d w k fr vh o := by
  refine h vm_Snd ⟨?_, ?_, ?_, ?_⟩
  · intro d w k fr vh p l e R s m args below meth c Q D ct bs b L xs cells slots C h1 h2 h3 h4 kk
    exact kk
  · intro d w k fr vh fr1 vh1 a c2 fr2 vh2 nc ns hst ih p l e R s m args below meth c Q D ct bs b L xs cells slots C h1 h2 h3 h4 kk
    obtain ⟨pc, ls, st⟩ := fr
    unfold vm_st at hst
    split at hst
    next i x y z he =>
      have h3' : cells + (a + nc) ≤ R.cells := h3
      have h4' : slots + (c2 + ns) ≤ R.slots := h4
      refine vm_step C he hst (by omega) (by omega) (ih p l e R s m args below meth c Q D ct bs b L xs (cells + a) (slots + c2) C h1 h2 (by show cells + a + nc ≤ _; omega) (by show slots + c2 + ns ≤ _; omega) ?_)
      have kk' : vm_On p l e R s m args below meth c Q D ct bs b L xs (vm_max k) fr2 vh2 (cells + (a + nc)) (slots + (c2 + ns)) := kk
      rw [← Nat.add_assoc, ← Nat.add_assoc] at kk'
      exact kk'
    next => cases hst
  · intro d w k fr vh j as fr1 d1 w1 frR vh1 n1 s1 r fr2 vh2 n2 s2 hcl hd hw ih1 hrt ih2 p l e R s m args below meth c Q D ct bs b L xs cells slots C h1 h2 h3 h4 kk
    obtain ⟨pc, ls, st⟩ := fr
    have h3' : cells + (n1 + n2) ≤ R.cells := h3
    have h4' : slots + (s1 + s2) ≤ R.slots := h4
    refine vm_callrow C hcl (by omega) (by omega) ih1 hrt (by omega) (by omega) (ih2 p l e R s m args below meth c Q D ct bs b L xs (cells + n1) (slots + s1) C h1 h2 (by show cells + n1 + n2 ≤ _; omega) (by show slots + s1 + s2 ≤ _; omega) ?_)
    have kk' : vm_On p l e R s m args below meth c Q D ct bs b L xs (vm_max k) fr2 vh2 (cells + (n1 + n2)) (slots + (s1 + s2)) := kk
    rw [← Nat.add_assoc, ← Nat.add_assoc] at kk'
    exact kk'
  · intro d w k fr vh fr1 vh1 o hnt hd hw ih p l e R s m args below meth c Q D ct bs b L xs cells slots C h1 h2 h3 h4 kk
    obtain ⟨pc, ls, st⟩ := fr
    have h3' : cells + o.2.2.1 ≤ R.cells := h3
    have h4' : slots + o.2.2.2 ≤ R.slots := h4
    exact vm_ntrow C hnt (by omega) (by omega) (by omega) (by omega) (ih p l e R s m args below meth c Q D ct bs b L xs cells slots C h1 h2 h3 h4 kk)
