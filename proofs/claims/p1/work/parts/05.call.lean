section VMCALL
variable {p : Program} {l : Launch} {e : Env} {R : Room} {s : State} {m : MethodId} {args : Array Value} {below : List Frame} {meth : Method} {c : Code} {H : Heap} {locs : List Loc} {cells slots : Nat} {Q : State → Prop}
variable {D : va_G} {ct : Nat → ClassId} {bs b L : Nat} {xs : Nat → Int32} {la : Array Slot}
/-- behind a call -/
theorem vm_after {mx pc n1 s1 : Nat} {ls : vm_L} {st0 rest0 : List Value} {rest : List Value} {a : Array Value} {r : Option Value} {vh1 : vm_H} (hl : lv_has la mx (vm_lm bs b ls)) (hrest : rest = rest0.map (vm_rv bs b))
    (hr : va_Run p l e R s m args below meth c H locs cells slots n1 s1 (F0 m pc la st0) rest (vm_Qc D ct bs b L xs r vh1 a) (fun q => b ≤ q)) (hS : va_S (fun q => b ≤ q) s.heap H locs)
    (kk : vm_On p l e R s m args below meth c Q D ct bs b L xs mx (pc + 3, ls, r.toList ++ rest0) vh1 (cells + n1) (slots + s1)) : W p l e R s m args below meth c H locs cells slots Q (F0 m pc la st0) := by
  intro T hT X
  obtain ⟨v, st₀, t, T', L', h0, X', hL, e1, e2, ⟨hv, hR1, hz, hk⟩, st⟩ := hr T hT X
  have hv : v = r.map (vm_rv bs b) := Outcome.returned.inj hv
  rw [h0] at hz hk
  have hA : s.vm.Alike t.vm := by rw [← e2]; exact X'.warmed.alike
  obtain ⟨t2, a1, b1⟩ := kk T'.heap (locs ++ L') la (by rw [e1]; exact hR1.moved hA.symm)
    ⟨Nat.le_trans hS.1 (by rw [e1]; exact hz), fun q h1 h2 => by rw [e1, hk q (Nat.lt_of_lt_of_le h1 hS.1) h2]; exact hS.2.1 q h1 h2, fun q hq => by
      rcases List.mem_append.mp hq with h | h
      · exact hS.2.2 q h
      · exact hL q h⟩ hl T' rfl X'
  refine ⟨t2, st t2 ?_, b1⟩
  have e9 : v.toList ++ rest = (r.toList ++ rest0).map (vm_rv bs b) := by
    rw [hv, hrest, List.map_append]
    cases r <;> rfl
  rw [e9]
  exact a1
theorem vm_pre {as : List Value} {vh : vm_H} (hR : vm_R D ct bs b L xs vh s H) (hK : vm_K D ct s) : PreS s H (vm_Pc D ct bs b L xs as vh) (as.map (vm_rv bs b)) :=
  ⟨vm_blind D ct bs b L xs as vh, fun U hU hW => ⟨rfl, by rw [hU]; exact hR.moved hW.alike, hK.moved hW⟩⟩
theorem vm_stk {na : Nat} (st : List Value) : st.map (vm_rv bs b) = ((st.take na).reverse.map (vm_rv bs b)).reverse ++ (st.drop na).map (vm_rv bs b) := by
  rw [← List.map_reverse, List.reverse_reverse, ← List.map_append, List.take_append_drop]
variable {k pc j d1 w1 n1 s1 : Nat} {ls : vm_L} {st : List Value} {vh vh1 : vm_H} {fr1 frR : vm_F} {as : List Value} {r : Option Value}
set_option maxHeartbeats 4000000 in
theorem vm_callrow (C : vm_C p s m args meth c D ct k) (hcl : vm_cl k (pc, ls, st) vh = some (j, as, fr1)) (hd : d1 + 1 ≤ R.frames) (hw : 19 + vm_max j + w1 ≤ R.locals) (ih : vm_Snd d1 w1 j (0, lv_args 0 as, []) vh (frR, vh1, n1, s1)) (hrt : vm_rt j frR = some r) (hc : cells + n1 ≤ R.cells) (hs : slots + s1 ≤ R.slots)
    (kk : vm_On p l e R s m args below meth c Q D ct bs b L xs (vm_max k) (fr1.1, fr1.2.1, r.toList ++ fr1.2.2) vh1 (cells + n1) (slots + s1)) : vm_On p l e R s m args below meth c Q D ct bs b L xs (vm_max k) (pc, ls, st) vh cells slots := by
  intro H locs la hR hS hl
  have hl : lv_has la (vm_max k) (vm_lm bs b ls) := hl
  show W p l e R s m args below meth c H locs cells slots Q (F0 m pc la (st.map (vm_rv bs b)))
  obtain ⟨hX, hb, hml, hr, hlk, hnm, hown, hts, hK⟩ := id C
  have hrm : (⟨d1, n1, s1, w1⟩ : Room).frames + 1 ≤ R.frames ∧ 8 + (vm_max j + 11) + (⟨d1, n1, s1, w1⟩ : Room).locals ≤ R.locals := ⟨hd, by show 8 + (vm_max j + 11) + w1 ≤ _; omega⟩
  unfold vm_cl at hcl
  split at hcl
  next o j' z he =>
    have hdg := vm_dec he
    simp only [vm_cs] at hcl
    split at hcl
    next hg =>
      simp only [Option.some.injEq, Prod.mk.injEq] at hcl
      obtain ⟨rfl, rfl, rfl⟩ := hcl
      obtain ⟨⟨hj, hk1⟩, hlink⟩ := vm_ivok he
      have h0 : (vm_mp j').1 ≠ 0 := by rw [hk1]; decide
      have F := vm_mfacts hj h0
      exact vm_after hl rfl (va_runS (As := (st.take (vm_na j')).reverse.map (vm_rv bs b)) (rest := (st.drop (vm_na j')).map (vm_rv bs b)) ⟨hX, hb, hml, hown, hts⟩ (vm_met l D ct bs b L xs hj h0 hg.2.2 ih hrt) ⟨callB_of (vm_na j') hts (vm_good j' hj h0) rfl rfl rfl (hts _ F.2.2.1) (hts _ hlink) F.2.2.2.1 hrm, hts _ (F.2.2.2.2.1 hk1)⟩ (vm_pre hR hK) rfl (by rw [List.length_map, List.length_reverse, List.length_take]; omega) hl.1 (vm_stk st) (lv_room (by rw [vm_sum_cat]; exact hg.2.1)) hdg ⟨hc, hs⟩) hS kk
    next => cases hcl
  next o j' z he =>
    have hdg := vm_dec he
    simp only [vm_cs] at hcl
    split at hcl
    next hg =>
      simp only [Option.some.injEq, Prod.mk.injEq] at hcl
      obtain ⟨rfl, rfl, rfl⟩ := hcl
      obtain ⟨⟨hj, hk1⟩, hlink⟩ := vm_ivok3 he
      have h0 : (vm_mp j').1 ≠ 0 := by rw [hk1]; decide
      have F := vm_mfacts hj h0
      exact vm_after hl rfl (va_runSN (As := (st.take (vm_na j')).reverse.map (vm_rv bs b)) (rest := (st.drop (vm_na j')).map (vm_rv bs b)) ⟨hX, hb, hml, hown, hts⟩ (vm_met l D ct bs b L xs hj h0 hg.2.2 ih hrt) ⟨va_cnB (vm_na j') hts (vm_good j' hj h0) rfl rfl rfl (hK.2.2.2 _ hlink) (hts _ F.2.2.1) F.2.2.2.1 hrm, hts _ (F.2.2.2.2.1 hk1), trivial⟩ (vm_pre hR hK) rfl (by rw [List.length_map, List.length_reverse, List.length_take]; omega) hl.1 (vm_stk st) (lv_room (by rw [vm_sum_cat]; exact hg.2.1)) hdg ⟨hc, hs⟩) hS kk
    next => cases hcl
  next o j' z he =>
    have hdg := vm_dec he
    obtain ⟨⟨hj, hk1⟩, hlink⟩ := vm_ivok4 he
    have h0 : (vm_mp j').1 ≠ 0 := by rw [hk1]; decide
    have F := vm_mfacts hj h0
    simp only [vm_cv] at hcl
    split at hcl
    next n rr hdrop =>
      split at hcl
      next ci fs hat =>
        split at hcl
        next hg =>
          simp only [Option.some.injEq, Prod.mk.injEq] at hcl
          obtain ⟨rfl, rfl, rfl⟩ := hcl
          have hci : ci = vm_ci j' := hg.1 trivial
          have hcell : va_at D vm_cls (vm_ra bs b n, .inr (ci, fs.map (vm_rv bs b))) H := hR.cell (hR.ne0 hat (by intro q; cases q)) hat
          have hF3 := (F.2.2.2.2.2.2 hk1).2.2
          rw [← hci] at hF3
          obtain ⟨q, hq, hq1⟩ : ∃ q : vw_C, vm_cls[ci]? = some q ∧ q.1 = (vm_name j').cls := by
            cases hcq : vm_cls[ci]? with
            | none => rw [hcq] at hF3; cases hF3
            | some q => rw [hcq] at hF3; exact ⟨q, rfl, Option.some.inj hF3⟩
          have hrecv := va_recv hK.1 (vm_P1 hcell) hq (q0 := 0) rfl
          rw [hq1] at hrecv
          have hpre := vm_pre (as := .ref n :: (st.take (vm_na j')).reverse) hR hK
          have hstk : st.map (vm_rv bs b) = ((st.take (vm_na j')).reverse.map (vm_rv bs b)).reverse ++ .ref (vm_ra bs b n) :: rr.map (vm_rv bs b) := by
            have h9 := vm_stk (bs := bs) (b := b) (na := vm_na j') st
            rw [hdrop] at h9
            exact h9
          exact vm_after hl rfl (va_runV (As := (st.take (vm_na j')).reverse.map (vm_rv bs b)) (rest := rr.map (vm_rv bs b)) (b := vm_ra bs b n) ⟨hX, hb, hml, hown, hts⟩ (vm_met l D ct bs b L xs hj h0 hg.2.2.2 ih hrt) ⟨callB_of (vm_na j') hts (vm_good j' hj h0) rfl rfl rfl (hts _ F.2.2.1) (hts _ hlink) F.2.2.2.1 hrm, hts _ (F.2.2.2.2.2.2 hk1).1, hts _ (F.2.2.2.2.2.2 hk1).2.1⟩ ⟨hpre.1, hrecv, hpre.2⟩ rfl (by rw [List.length_map, List.length_reverse, List.length_take]; omega) hl.1 hstk (lv_room (by rw [vm_sum_cat]; exact hg.2.2.1)) hdg ⟨hc, hs⟩) hS kk
        next => cases hcl
      next => cases hcl
    next => cases hcl
  next o j' z he =>
    have hdg := vm_dec he
    obtain ⟨⟨hj, hk1⟩, hlink⟩ := vm_ivok5 he
    have h0 : (vm_mp j').1 ≠ 0 := by rw [hk1]; decide
    have F := vm_mfacts hj h0
    simp only [vm_cv] at hcl
    split at hcl
    next n rr hdrop =>
      split at hcl
      next ci fs hat =>
        split at hcl
        next hg =>
          simp only [Option.some.injEq, Prod.mk.injEq] at hcl
          obtain ⟨rfl, rfl, rfl⟩ := hcl
          have hci : ci = vm_ci j' := hg.1 trivial
          have hcell : va_at D vm_cls (vm_ra bs b n, .inr (ci, fs.map (vm_rv bs b))) H := hR.cell (hR.ne0 hat (by intro q; cases q)) hat
          have hF3 := (F.2.2.2.2.2.2 hk1).2.2
          rw [← hci] at hF3
          obtain ⟨q, hq, hq1⟩ : ∃ q : vw_C, vm_cls[ci]? = some q ∧ q.1 = (vm_name j').cls := by
            cases hcq : vm_cls[ci]? with
            | none => rw [hcq] at hF3; cases hF3
            | some q => rw [hcq] at hF3; exact ⟨q, rfl, Option.some.inj hF3⟩
          have hrecv := va_recv hK.1 (vm_P1 hcell) hq (q0 := 0) rfl
          rw [hq1] at hrecv
          have hpre := vm_pre (as := .ref n :: (st.take (vm_na j')).reverse) hR hK
          have hstk : st.map (vm_rv bs b) = ((st.take (vm_na j')).reverse.map (vm_rv bs b)).reverse ++ .ref (vm_ra bs b n) :: rr.map (vm_rv bs b) := by
            have h9 := vm_stk (bs := bs) (b := b) (na := vm_na j') st
            rw [hdrop] at h9
            exact h9
          exact vm_after hl rfl (va_runVN (As := (st.take (vm_na j')).reverse.map (vm_rv bs b)) (rest := rr.map (vm_rv bs b)) (b := vm_ra bs b n) ⟨hX, hb, hml, hown, hts⟩ (vm_met l D ct bs b L xs hj h0 hg.2.2.2 ih hrt) ⟨va_cnB (vm_na j') hts (vm_good j' hj h0) rfl rfl rfl (hK.2.2.2 _ hlink) (hts _ F.2.2.1) F.2.2.2.1 hrm, hts _ (F.2.2.2.2.2.2 hk1).1, hts _ (F.2.2.2.2.2.2 hk1).2.1⟩ ⟨hpre.1, hrecv, hpre.2⟩ rfl (by rw [List.length_map, List.length_reverse, List.length_take]; omega) hl.1 hstk (lv_room (by rw [vm_sum_cat]; exact hg.2.2.1)) hdg ⟨hc, hs⟩) hS kk
        next => cases hcl
      next => cases hcl
    next => cases hcl
  next o j' z he =>
    have hdg := vm_dec he
    obtain ⟨⟨hj, hk1⟩, hlink⟩ := vm_ivok6 he
    have h0 : (vm_mp j').1 ≠ 0 := by rw [hk1]; decide
    have F := vm_mfacts hj h0
    have hF2 := F.2.2.2.2.2.1 hk1
    simp only [vm_cv] at hcl
    split at hcl
    next n rr hdrop =>
      split at hcl
      next ci fs hat =>
        split at hcl
        next hg =>
          simp only [Option.some.injEq, Prod.mk.injEq] at hcl
          obtain ⟨rfl, rfl, rfl⟩ := hcl
          have hpre := vm_pre (as := .ref n :: (st.take (vm_na j')).reverse) hR hK
          have hstk : st.map (vm_rv bs b) = ((st.take (vm_na j')).reverse.map (vm_rv bs b)).reverse ++ .ref (vm_ra bs b n) :: rr.map (vm_rv bs b) := by
            have h9 := vm_stk (bs := bs) (b := b) (na := vm_na j') st
            rw [hdrop] at h9
            exact h9
          have hM := vm_met l D ct bs b L xs hj h0 hg.2.2.2 ih hrt
          have hG := vm_good j' hj h0
          rw [hF2.2.2] at hM hG
          exact vm_after hl rfl (va_runI (As := (st.take (vm_na j')).reverse.map (vm_rv bs b)) (rest := rr.map (vm_rv bs b)) (b := vm_ra bs b n) ⟨hX, hb, hml, hown, hts⟩ hM ⟨callB_of (vm_na j') hts hG rfl rfl rfl (hts _ F.2.2.1) (hts _ hlink) F.2.2.2.1 hrm, hF2.2.1, hts _ hF2.1⟩ hpre rfl (by rw [List.length_map, List.length_reverse, List.length_take]; omega) hl.1 hstk (lv_room (by rw [vm_sum_cat]; exact hg.2.2.1)) hdg ⟨hc, hs⟩) hS kk
        next => cases hcl
      next => cases hcl
    next => cases hcl
  next o j' z he =>
    have hdg := vm_dec he
    obtain ⟨⟨hj, hk1⟩, hlink⟩ := vm_ivok7 he
    have h0 : (vm_mp j').1 ≠ 0 := by rw [hk1]; decide
    have F := vm_mfacts hj h0
    have hF2 := F.2.2.2.2.2.1 hk1
    simp only [vm_cv] at hcl
    split at hcl
    next n rr hdrop =>
      split at hcl
      next ci fs hat =>
        split at hcl
        next hg =>
          simp only [Option.some.injEq, Prod.mk.injEq] at hcl
          obtain ⟨rfl, rfl, rfl⟩ := hcl
          have hpre := vm_pre (as := .ref n :: (st.take (vm_na j')).reverse) hR hK
          have hstk : st.map (vm_rv bs b) = ((st.take (vm_na j')).reverse.map (vm_rv bs b)).reverse ++ .ref (vm_ra bs b n) :: rr.map (vm_rv bs b) := by
            have h9 := vm_stk (bs := bs) (b := b) (na := vm_na j') st
            rw [hdrop] at h9
            exact h9
          have hM := vm_met l D ct bs b L xs hj h0 hg.2.2.2 ih hrt
          have hG := vm_good j' hj h0
          rw [hF2.2.2] at hM hG
          exact vm_after hl rfl (va_runIN (As := (st.take (vm_na j')).reverse.map (vm_rv bs b)) (rest := rr.map (vm_rv bs b)) (b := vm_ra bs b n) ⟨hX, hb, hml, hown, hts⟩ hM ⟨va_cnB (vm_na j') hts hG rfl rfl rfl (hK.2.2.2 _ hlink) (hts _ F.2.2.1) F.2.2.2.1 hrm, hF2.2.1, hts _ hF2.1⟩ hpre rfl (by rw [List.length_map, List.length_reverse, List.length_take]; omega) hl.1 hstk (lv_room (by rw [vm_sum_cat]; exact hg.2.2.1)) hdg ⟨hc, hs⟩) hS kk
        next => cases hcl
      next => cases hcl
    next => cases hcl
  next => cases hcl
theorem vm_ntrow (C : vm_C p s m args meth c D ct k) (hnt : vm_nt k (pc, ls, st) = some fr1) (hd : 1 ≤ R.frames) (hw : 20 ≤ R.locals) (kk : vm_On p l e R s m args below meth c Q D ct bs b L xs (vm_max k) fr1 vh cells slots) : vm_On p l e R s m args below meth c Q D ct bs b L xs (vm_max k) (pc, ls, st) vh cells slots := by
  intro H locs la hR hS hl
  have hl : lv_has la (vm_max k) (vm_lm bs b ls) := hl
  show W p l e R s m args below meth c H locs cells slots Q (F0 m pc la (st.map (vm_rv bs b)))
  obtain ⟨hX, hb, hml, hr, hlk, hnm, hown, hts, hK⟩ := id C
  unfold vm_nt at hnt
  split at hnt
  next o x z he =>
    have hdg := vm_dec he
    split at hnt
    next n rr hst =>
      split at hnt
      next hg =>
        simp only [Option.some.injEq] at hnt
        subst hnt
        have hst : st = .ref n :: rr := hst
        subst hst
        refine W.objInit hX hb hown (hts _ (vm_ivok8 he)) (hts _ (vm_has_in vm_oI0.1)) (hts _ (vm_has_in vm_oI0.2)) rfl (by rw [hml]; exact hl.1) rfl hdg hd ?_ (kk H locs la hR hS hl)
        have h9 := lv_room (m := m) (pc := pc) (ls := la) (rest := ([] : List Value)) (st := rr.map (vm_rv bs b)) (by rw [vm_sum_cat]; exact hg)
        have h8 : (F0 m pc la (List.map (vm_rv bs b) (.ref n :: rr))).monitorRoom = (F0 m pc la ([] : List Value)).monitorRoom := rfl
        rw [h8]
        omega
      next => cases hnt
    next => cases hnt
  next => cases hnt
end VMCALL
/-- what the numbered machine reaches, the JVM reaches -/
theorem vm_sound {d w k : Nat} {fr : vm_F} {vh : vm_H} {o : vm_F × vm_H × Nat × Nat} (h : vm_Go d w k fr vh o) : vm_Snd d w k fr vh o := by
  refine h vm_Snd ⟨?_, ?_, ?_, ?_⟩
  · intro d w k fr vh p l e R s m args below meth c Q D ct bs b L xs cells slots C h1 h2 h3 h4 kk
    exact kk
  · intro d w k fr vh fr1 vh1 a c2 fr2 vh2 nc ns hst ih p l e R s m args below meth c Q D ct bs b L xs cells slots C h1 h2 h3 h4 kk
    obtain ⟨pc, ls, st⟩ := fr
    unfold vm_st at hst
    split at hst
    next i x y z he =>
      have h3' : cells + (a + nc) ≤ R.cells := h3
      have h4' : slots + (c2 + ns) ≤ R.slots := h4
      refine vm_step C he hst (by omega) (by omega) (ih p l e R s m args below meth c Q D ct bs b L xs (cells + a) (slots + c2) C h1 h2 (by show cells + a + nc ≤ _; omega) (by show slots + c2 + ns ≤ _; omega) ?_)
      have kk' : vm_On p l e R s m args below meth c Q D ct bs b L xs (vm_max k) fr2 vh2 (cells + (a + nc)) (slots + (c2 + ns)) := kk
      rw [← Nat.add_assoc, ← Nat.add_assoc] at kk'
      exact kk'
    next => cases hst
  · intro d w k fr vh j as fr1 d1 w1 frR vh1 n1 s1 r fr2 vh2 n2 s2 hcl hd hw ih1 hrt ih2 p l e R s m args below meth c Q D ct bs b L xs cells slots C h1 h2 h3 h4 kk
    obtain ⟨pc, ls, st⟩ := fr
    have h3' : cells + (n1 + n2) ≤ R.cells := h3
    have h4' : slots + (s1 + s2) ≤ R.slots := h4
    refine vm_callrow C hcl (by omega) (by omega) ih1 hrt (by omega) (by omega) (ih2 p l e R s m args below meth c Q D ct bs b L xs (cells + n1) (slots + s1) C h1 h2 (by show cells + n1 + n2 ≤ _; omega) (by show slots + s1 + s2 ≤ _; omega) ?_)
    have kk' : vm_On p l e R s m args below meth c Q D ct bs b L xs (vm_max k) fr2 vh2 (cells + (n1 + n2)) (slots + (s1 + s2)) := kk
    rw [← Nat.add_assoc, ← Nat.add_assoc] at kk'
    exact kk'
  · intro d w k fr vh fr1 o hnt hd hw ih p l e R s m args below meth c Q D ct bs b L xs cells slots C h1 h2 h3 h4 kk
    obtain ⟨pc, ls, st⟩ := fr
    exact vm_ntrow C hnt (by omega) (by omega) (ih p l e R s m args below meth c Q D ct bs b L xs cells slots C h1 h2 h3 h4 kk)
