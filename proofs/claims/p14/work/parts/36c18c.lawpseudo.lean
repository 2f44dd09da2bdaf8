/-! The law's own pseudo: it answers 0 and lays the answer, or it catches and answers 1. -/
abbrev px_cw : Cond := Cond.codeWith (vm_name 124) (vm_code 124) (vm_max 124) (vm_ret 124) [(0, 10, 13, 13)]
set_option maxRecDepth 100000 in
theorem px_cwin : px_cw ∈ vm_ws := List.mem_filter.mpr ⟨List.mem_of_getElem? (i := 556) rfl, rfl⟩
theorem px_lw : vm_has 554 (.methodLink (vm_name 0).cls 89 (vm_name 124)) = true ∧ vm_has 555 (.static (vm_name 124)) = true ∧ vm_has 51 (.initialized (vm_name 124).cls) = true := by decide +kernel
theorem px_good : GoodIn vm_ws (px_cw :: vm_ws) := by
  intro w hw
  have h1 : w ∈ vm_ws := by
    rcases List.mem_cons.mp hw with rfl | h
    · exact px_cwin
    · exact h
  exact ⟨h1, good_of_word (vm_ws_good w h1)⟩
theorem c58 {vh : vm_H} {n : Nat} (a b : Int64) (hb0 : ¬ b = 0) : vm_Rp 0 0 58 [.ref n, .long a, .long b] vh (fun q v1 => vh = v1 ∧ q = some (.long (a <<< (Int32.toInt64 (Int8.ofInt 32).toInt32 &&& 63) / b))) := by
  refine w_in (m := 0) ?_
  show vm_Wp _ _ _ 0 [some (.ref n), some (.long a), none, some (.long b), none] [] _ _
  refine w_ldL e58_0 (fun _ => rfl) rfl ?_
  refine w_x e58_1 (fun _ => rfl) ?_
  refine w_lcmp e58_2 (fun q hq h1 h2 => ?_)
  refine w_if e58_3 (by omega) (fun (h : q ≠ 0) => ?_) (fun (h : q = 0) => absurd (h1.mp h) hb0)
  refine w_ldL e58_16 (fun _ => rfl) rfl ?_
  refine w_x e58_17 (fun _ => rfl) ?_
  refine w_x e58_19 (fun _ => rfl) ?_
  refine w_ldL e58_20 (fun _ => rfl) rfl ?_
  refine w_div e58_21 hb0 ?_
  exact w_rl e58_22 rfl ⟨rfl, rfl⟩
theorem m_L_pseudo_n {vh : vm_H} {fs : List Value} {f0 : Nat → Int64} (h1 : vm_at vh 1 = some (.inr (5, fs))) (h263 : vm_at vh 263 = some (.inl (1, 1, .inr (.inl f0)))) (a b : Int64) (hb0 : ¬ b = 0) : vm_Rp 1 24 124 [.ref 1, .long a, .long b, .ref 263] vh (fun q vh1 => q = some (.int 0) ∧ (∃ f, vm_at vh1 263 = some (.inl (1, 1, .inr (.inl f))) ∧ f 0 = a <<< (Int32.toInt64 (Int8.ofInt 32).toInt32 &&& 63) / b) ∧ vm_but 263 vh vh1) := by
  refine w_in (m := 1) ?_
  show vm_Wp _ _ _ 0 [some (.ref 1), some (.long a), none, some (.long b), none, some (.ref 263), none] [] _ _
  refine w_ldA e124_0 (fun _ => rfl) rfl ?_
  refine w_kI e124_2 ?_
  refine w_ldA e124_3 (fun _ => rfl) rfl ?_
  refine w_ldL e124_4 (fun _ => rfl) rfl ?_
  refine w_ldL e124_5 (fun _ => rfl) rfl ?_
  refine w_cv e124_6 (by decide) rfl h1 rfl (Nat.le_of_ble_eq_true rfl) (Nat.le_of_ble_eq_true rfl) (Nat.le_of_ble_eq_true rfl) (by decide) (by decide) (c58 a b hb0) (fun r v q => ?_)
  obtain ⟨rfl, rfl⟩ := q
  refine w_lst e124_9 h263 (by decide) (by decide) (by decide) (fun v2 b2 h2 => ?_)
  refine w_x e124_10 (fun _ => rfl) ?_
  refine w_kI e124_17 ?_
  exact w_ri e124_18 rfl ⟨rfl, ⟨_, h2, by simp [vp_updL]⟩, b2⟩
theorem px_Lw (vh : vm_H) (n o : Nat) (a b : Int64) : vm_Wo 0 0 124 (0, lv_args 0 [.ref n, .long a, .long b, .ref o], []) vh (fun fr vh1 => fr = (6, lv_args 0 [.ref n, .long a, .long b, .ref o], [.long b, .long a, .ref n, .int 0, .ref o]) ∧ vh1 = vh) := by
  refine wo_x e124_0 rfl ?_
  refine wo_x e124_2 rfl ?_
  refine wo_x e124_3 rfl ?_
  refine wo_x e124_4 rfl ?_
  refine wo_x e124_5 rfl ?_
  exact wo_end ⟨rfl, rfl⟩
set_option maxHeartbeats 4000000 in
theorem px_metn {d w : Nat} {as : List Value} {vh vh1 : vm_H} {frR : vm_F} {v : Int32} (l : Launch) (D : va_G) (ct : Nat → ClassId) (bs b L : Nat) (xs : Nat → Int32) (hlen : (lg_sl as).length ≤ vm_max 124)
    (ih : vm_Snd d w 124 (0, lv_args 0 as, []) vh (frR, vh1, 0, 0)) (hr : vm_rt 124 frR = some (some (.int v))) :
    Met l (vm_name 124) (px_cw :: vm_ws) { frames := d, cells := 0, slots := 0, locals := w } (vm_Pc D ct bs b L xs as vh) (vm_Qc D ct bs b L xs (some (.int v)) vh1) 0 0 (fun q => b ≤ q) := by
  refine va_MetW (hh := [(0, 10, 13, 13)]) (cc := vm_code 124) (maxL := vm_max 124) (ret := vm_ret 124) (by decide) rfl ?_
  intro p e s m args below meth c s₁ B hml hv
  obtain ⟨rfl, hR, hK⟩ := hv
  have hts0 := atoms_spec (ws := px_cw :: vm_ws) B.pre
  have hlk := B.notSynchronized
  have C : vm_C p s m (as.map (vm_rv bs b)).toArray meth c D ct 124 := ⟨B.exec, B.bytes, hml, B.returns, B.notSynchronized, (name_of_methodNamed B.named B.method).1, findClass_of_methodNamed B.named, fun w h => hts0 w (List.mem_cons_of_mem _ h), hK⟩
  have hl := lv_entry (as.map (vm_rv bs b)) (n := vm_max 124) (by rw [vm_sl_len]; exact hlen)
  rw [lg_entry_eq]
  rw [vm_lm_args] at hl
  refine ih p l e _ s m _ below meth c _ D ct bs b L xs 0 0 C (Nat.le_refl _) (Nat.le_refl _) (Nat.le_refl _) (Nat.le_refl _) ?_ s.heap [] _ hR va_S.rf hl
  intro H locs la hR2 hS2 hl2
  obtain ⟨hX, hb, -, hrt, -⟩ := id C
  obtain ⟨pcR, lsR, stR⟩ := frR
  unfold vm_rt at hr
  split at hr
  next x y z he =>
    have hd := vm_dec he
    split at hr
    next v' hst hre =>
      cases hr
      have hst : stR = [.int v] := hst
      subst hst
      exact W.iret hX hb (hrt.trans hre) (fun t ht hW => ⟨rfl, by rw [ht]; exact hR2.moved hW.alike, hS2.F ht⟩) hS2.2.2 hd
    next v' hst hre => exact absurd hre (by decide)
    next => cases hr
  next x y z he =>
    split at hr
    next v' hst hre => exact absurd hre (by decide)
    next => cases hr
  next x y z he =>
    split at hr
    next n nm hst hre => exact absurd hre (by simp [vm_ret])
    next nm hst hre => exact absurd hre (by simp [vm_ret])
    next => cases hr
  next x y z he =>
    split at hr
    next hst hre => exact absurd hre (by decide)
    next => cases hr
  next => cases hr
def px_Qz (D : va_G) (ct : Nat → ClassId) (bs b L : Nat) (xs : Nat → Int32) (vh : vm_H) : Array Value → State → Outcome → State → Prop := fun _ st o t => o = .returned (some (.int 1)) ∧ px_J D ct bs b L xs vh t ∧ va_F (fun q => b ≤ q) st t
set_option maxHeartbeats 4000000 in
theorem px_metz (l : Launch) (hl : l.stackTraces = false) (D : va_G) (ct : Nat → ClassId) (bs b L : Nat) (xs : Nat → Int32) (vh : vm_H) (n o : Nat) (a : Int64) {fs : List Value} (hn : vm_at vh n = some (.inr (5, fs))) :
    Met l (vm_name 124) (px_cw :: vm_ws) { frames := 7, cells := 1, slots := 6, locals := 106 } (px_Pc D ct bs b L xs [.ref n, .long a, .long 0, .ref o] vh) (px_Qz D ct bs b L xs vh) 1 6 (fun q => b ≤ q) := by
  refine va_MetW (hh := [(0, 10, 13, 13)]) (cc := vm_code 124) (maxL := vm_max 124) (ret := vm_ret 124) (by decide) rfl ?_
  intro p e s m args below meth c s₁ B hml hv
  obtain ⟨rfl, hR, hK, hXx⟩ := hv
  have hts0 := atoms_spec (ws := px_cw :: vm_ws) B.pre
  have hlk := B.notSynchronized
  have htab : c.exceptionTable.toList = tableOf [(0, 10, 13, 13)] := vx_table (x := vm_name 124) B (hts0 px_cw List.mem_cons_self)
  have C : vm_C p s m (([.ref n, .long a, .long 0, .ref o] : List Value).map (vm_rv bs b)).toArray meth c D ct 124 := ⟨B.exec, B.bytes, hml, B.returns, B.notSynchronized, (name_of_methodNamed B.named B.method).1, findClass_of_methodNamed B.named, fun w h => hts0 w (List.mem_cons_of_mem _ h), hK⟩
  have hl0 := lv_entry (([.ref n, .long a, .long 0, .ref o] : List Value).map (vm_rv bs b)) (n := vm_max 124) (by rw [vm_sl_len]; exact Nat.le_of_ble_eq_true rfl)
  rw [lg_entry_eq]
  rw [vm_lm_args] at hl0
  obtain ⟨fr2, vh2, g, hfr, hvh⟩ := px_Lw vh n o a 0
  rw [hfr, hvh] at g
  refine vm_sound g p l e _ s m _ below meth c _ D ct bs b L xs 0 0 C (Nat.zero_le _) (Nat.zero_le _) (Nat.zero_le _) (Nat.zero_le _) ?_ s.heap [] _ hR va_S.rf hl0
  intro H locs la hR2 hS2 hl2
  have hl2 : lv_has la (vm_max 124) (vm_lm bs b (lv_args 0 [.ref n, .long a, .long 0, .ref o])) := hl2
  show W p l e _ s m _ below meth c H locs 0 0 _ (F0 m 6 la [.long 0, .long a, .ref (vm_ra bs b n), .int 0, .ref (vm_ra bs b o)])
  obtain ⟨hX, hb, -, hrt, -, -, hown, hts, -⟩ := id C
  obtain ⟨⟨hj, hk1⟩, hlink⟩ := vm_ivok4 e124_6
  have h0 : (vm_mp 58).1 ≠ 0 := by rw [hk1]; decide
  have F := vm_mfacts hj h0
  have hcell : va_at D vm_cls (vm_ra bs b n, .inr (5, fs.map (vm_rv bs b))) H := hR2.cell (hR2.ne0 hn (by intro q; cases q)) hn
  have hrecv := va_recv (q := ("TriangleSets", vm_TX5, 18)) hK.1 (vm_P1 hcell) rfl (q0 := 0) rfl
  have hrun := vx_runV (As := [.long a, .long 0]) (rest := [.int 0, .ref (vm_ra bs b o)]) (b := vm_ra bs b n) (cells := 0) (slots := 0) (locs := locs) (H := H) (below := below) (meth := meth) (g := F0 m 6 la [.long 0, .long a, .ref (vm_ra bs b n), .int 0, .ref (vm_ra bs b o)]) (e := e) (R := { frames := 7, cells := 1, slots := 6, locals := 106 }) (C := "TriangleSets") ⟨hX, hb, hml, hown, hts⟩ (px_throw l hl D ct bs b L xs vh n a)
    ⟨callB_of (vm_na 58) hts (vm_good 58 hj h0) rfl rfl rfl (hts _ F.2.2.1) (hts _ hlink) F.2.2.2.1 ⟨Nat.le_of_ble_eq_true rfl, Nat.le_of_ble_eq_true rfl⟩, hts _ (F.2.2.2.2.2.2 hk1).1, hts _ (F.2.2.2.2.2.2 hk1).2.1⟩
    ⟨px_blind D ct bs b L xs _ vh, hrecv, fun U hU hW => ⟨rfl, by rw [hU]; exact hR2.moved hW.alike, hK.moved hW, hXx.to hW (fun q h1 h2 => by rw [hU]; exact hS2.2.1 q h1 h2)⟩⟩ rfl rfl hl2.1 rfl (lv_room (Nat.le_of_ble_eq_true rfl)) (vm_dec e124_6) ⟨Nat.le_of_ble_eq_true rfl, Nat.le_of_ble_eq_true rfl⟩
  intro T hT X
  rcases hrun T hT X with ⟨v, st₀, t, T', L', h1, X', hL, e1, e2, hQ, st⟩ | ⟨q, st₀, t, T', L', E, ce, h1, X', hL, e1, e2, ⟨rfl, hJ, hF⟩, hce, hcv, hcl, st⟩
  · exact hQ.elim
  · have hA : s.vm.Alike t.vm := by rw [← e2]; exact X'.warmed.alike
    have hJ2 : px_J D ct bs b L xs vh T' := by
      obtain ⟨j, hj2⟩ := hJ
      exact ⟨j, by rw [e1]; exact hj2.moved (by rw [e2]; exact Vm.Alike.refl t.vm)⟩
    have hS3 : va_S (fun q => b ≤ q) s.heap T'.heap (locs ++ L') := by
      rw [e1]
      refine ⟨Nat.le_trans hS2.1 (by rw [← h1]; exact hF.1), fun z z1 z2 => ?_, fun z hz => ?_⟩
      · have h9 := hF.2 z (by rw [h1]; exact Nat.lt_of_lt_of_le z1 hS2.1) z2
        rw [h9, h1]
        exact hS2.2.1 z z1 z2
      · rcases List.mem_append.mp hz with h | h
        · exact hS2.2.2 z h
        · exact hL z h
    have hc : (Cond.castable px_E px_E).before (([.ref n, .long a, .long 0, .ref o] : List Value).map (vm_rv bs b)).toArray s = true := va_Nw.use rfl (hXx.2.2.2 _ (List.mem_filter.mpr ⟨px_any px_h4.2.2.2, rfl⟩))
    have hK9 : vx_W p l e { frames := 7, cells := 1, slots := 6, locals := 106 } s m (([.ref n, .long a, .long 0, .ref o] : List Value).map (vm_rv bs b)).toArray below meth c T'.heap (locs ++ L') (0 + 1) (0 + 6) (MQ below (px_Qz D ct bs b L xs vh) (([.ref n, .long a, .long 0, .ref o] : List Value).map (vm_rv bs b)).toArray s 1 6 (fun q => b ≤ q)) (F0 m 6 la [.int 0, .ref (vm_ra bs b o)]) q := by
      refine px_catch (own := "TriangleSetsLaw") (name := px_E) (E := px_E) (ce := ce) hown ⟨0, 10, 13, 13⟩ htab (by decide) (by decide) (hts _ (px_in px_h4.2.2.1 rfl)) hc (by rw [e1]; exact hce) hcv hcl ?_
      refine lv_astore hX hb (vm_dec e124_13) hl2 (by decide) rfl (fun la' hl' => ?_)
      refine lv_iconst (v := 1) hX hb (vm_dec e124_15) (by decide) ?_
      refine W.iret hX hb hrt (fun t2 ht2 hW2 => ⟨rfl, ?_, hS3.F ht2⟩) hS3.2.2 (vm_dec e124_16)
      obtain ⟨j, hj2⟩ := hJ2
      exact ⟨j, by rw [ht2]; exact (hj2.moved (X'.warmed.alike.symm)).moved hW2.alike⟩
    obtain ⟨t2, a1, b1⟩ := hK9 T' rfl X'
    exact ⟨t2, st.trans a1, b1⟩

