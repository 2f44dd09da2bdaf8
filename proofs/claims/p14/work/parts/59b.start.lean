def R_law : String := "TriangleSetsLaw"
def lw_P (b : Addr) (xs : List Int32) (args : Array Value) (s : State) : Prop := args = #[.ref b] ∧ s.IntsAt b xs ∧ xs.length ≤ 2560 ∧ (Jvm.Cond.and given_1 narrow_1).before args s = true
def lw_Q (_ : Array Value) (s : State) (o : Outcome) (t : State) : Prop := o = .returned (some (.int 1)) ∧ Framed s o t [] 601024 7293033
def lw_Z (below : List Frame) (a : Array Value) (s : State) : State → Prop := fun t => ∃ o, t.status = .running ∧ Ended t below o ∧ lw_Q a s o t
/-- the law's own end, with 1 on the stack, nothing written that was there before, its room as the claim has it -/
theorem lw_ret {p : Program} {l : Launch} {e : Env} {s : State} {m : MethodId} {below : List Frame} {meth : Method} {c : Code} {b : Nat} (hx : p.tables.exec = Jvm.exec) (hb : c.code = code) (hr : meth.sig.returnType = ret) (hlocks : meth.locks = false) {pc : Nat} {H : Heap} {ls : Array Slot} (hdg : decode code pc = .ok (.ireturn, 1)) : W p l e room_1 s m #[Value.ref b] below meth c H [] 601024 7293033 (lw_Z below #[Value.ref b] s) (F0 m pc ls [.int 1]) := by
  intro T hT X
  obtain ⟨fs, hret, hrun, hended, hW, hframe⟩ := X.leave (v := some (.int 1)) (hlocks := hlocks) (fun h => by rw [hr] at h; cases h)
  have hmeth' : T.vm.method? m = some meth := X.method'
  refine ⟨T.setFrames fs, ?_, .returned (some (.int 1)), hrun, hended, rfl, ⟨_, rfl⟩, hW, hframe⟩
  jvm_step X.here [X.here.top, hx, hb, hdg, hmeth', hr, ret, narrow_b1]
  (try refine ⟨rfl, ?_⟩); (try refine ⟨rfl, ?_⟩)
  first | (intro acts; rw [hret _ acts rfl rfl rfl]) | rw [hret _ _ rfl rfl rfl]
  exact Steps.refl _
/-- what holds at the law's entry: the machine, the code, the tables' words (any of lw_tbl by 'hts w (by decide +kernel)'), the script of L ints xs at the cell b, what the Statement gives of the start (any of its parts by flat_of_before) -/
def lw_At (p : Program) (s : State) (m : MethodId) (meth : Method) (c : Code) (b L : Nat) (xs : Nat → Int32) : Prop :=
  p.tables.exec = Jvm.exec ∧ c.code = code ∧ meth.sig.returnType = ret ∧ c.maxLocals = 8 ∧ s.vm.findClass R_law = some m.cls ∧ (∀ w ∈ lw_tbl, w.before #[Value.ref b] s = true) ∧ va_X b L xs s s.heap ∧ b < s.heap.size ∧ meth.locks = false ∧ (Jvm.Cond.and given_1 narrow_1).before #[Value.ref b] s = true ∧ meth.name = "law"
theorem ws_dend : decode code 778 = .ok (.ireturn, 1) := by decide +kernel
set_option maxRecDepth 100000 in
theorem ws_over : Cond.arrayOver (.object vm_e3) ∈ lw_tbl ∧ Cond.arrayOver (.object vm_e4) ∈ lw_tbl := ⟨List.mem_of_getElem? (i := 99) (by decide +kernel), List.mem_of_getElem? (i := 127) (by decide +kernel)⟩
set_option maxRecDepth 100000 in
theorem ws_static : Cond.laysStatic Bundle.tN "UNASSIGNED_STACK" Bundle.steD ∈ lw_tbl ∧ Cond.laysStatic Bundle.tN "SUPPRESSED_SENTINEL" Bundle.listD ∈ lw_tbl ∧ Cond.initialized Bundle.tN ∈ lw_tbl ∧ Cond.stringRef "TriangleSets" 219 "b is 0" ∈ lw_tbl := ⟨List.mem_of_getElem? (i := 589) (by decide +kernel), List.mem_of_getElem? (i := 591) (by decide +kernel), List.mem_of_getElem? (i := 62) (by decide +kernel), List.mem_of_getElem? (i := 601) (by decide +kernel)⟩
/-- the tables' numbers of the kinds, and of the arrays -/
theorem ws_known {s : State} {a : Array Value} (hts : ∀ w ∈ lw_tbl, w.before a s = true) : ∃ (D : va_G) (ct : Nat → ClassId), vm_K D ct s := by
  have hts' : ∀ w ∈ vm_ws, w.before a s = true := fun w h => hts w (List.mem_filter.mp h).1
  have h1 : ∀ k : Nat, ∃ y : ClassId × (Nat → Nat), ∀ q : vw_C, vm_cls[k]? = some q → u_Kn s q.1 q.2.1 q.2.2 y.1 y.2 := by
    intro k
    cases hq : vm_cls[k]? with
    | none => exact ⟨(0, fun _ => 0), fun q h => by cases h⟩
    | some q =>
      obtain ⟨cC, iS, h⟩ := u_known (C := q.1) (T := q.2.1) (N := q.2.2) (n := q.2.2) hts' (vm_cin hq) (hts' _ (vm_cfacts hq).2.2.2.1)
      exact ⟨(cC, iS), fun q' h' => by cases h'; exact h⟩
  obtain ⟨D, hD⟩ := Classical.axiomOfChoice h1
  obtain ⟨c0, k0, p0, a0, b0, d0⟩ := Cond.arrayClass_spec (hts' _ vm_arI)
  obtain ⟨c1, k1, p1, a1, b1, d1⟩ := Cond.arrayClass_spec (hts' _ vm_arL)
  obtain ⟨c2, k2, p2, a2, b2, d2⟩ := Cond.arrayClass_spec (hts' _ vm_arZ)
  have hov := ws_over
  obtain ⟨p3, c3, k3, q3, -, b3, d3, a3⟩ := Cond.arrayOver_spec (hts _ hov.1)
  obtain ⟨p4, c4, k4, q4, -, b4, d4, a4⟩ := Cond.arrayOver_spec (hts _ hov.2)
  refine ⟨(fun k => (D k).1, fun k => (D k).2), (fun t => match t with | 0 => c0 | 1 => c1 | 2 => c2 | 3 => c3 | _ => c4), ⟨fun k q hq => hD k q hq, fun k q hq => ?_⟩, va_AO.of (hts _ hov.1), va_AO.of (hts _ hov.2), fun w hw => va_Nw.of (vm_nwt hw) (hts w (List.mem_filter.mp hw).1)⟩
  match k, hq with
  | 0, hq => cases hq; exact ⟨fun N z => ⟨fun k h => (by cases h), k0, b0, p0, d0⟩, a0⟩
  | 1, hq => cases hq; exact ⟨fun N z => ⟨fun k h => (by cases h), k1, b1, p1, d1⟩, a1⟩
  | 2, hq => cases hq; exact ⟨fun N z => ⟨fun k h => (by cases h), k2, b2, p2, d2⟩, a2⟩
  | 3, hq => cases hq; exact ⟨fun N z => ⟨fun k h => (by cases h), k3, b3, p3, d3⟩, k3, p3, b3, d3, q3, a3⟩
  | 4, hq => cases hq; exact ⟨fun N z => ⟨fun k h => (by cases h), k4, b4, p4, d4⟩, k4, p4, b4, d4, q4, a4⟩
  | n + 5, hq => simp [vm_tys] at hq
theorem ws_X {s : State} {b : Addr} (hts : ∀ w ∈ lw_tbl, w.before #[Value.ref b] s = true) (hgv : (Jvm.Cond.and given_1 narrow_1).before #[Value.ref b] s = true) : px_X s.heap.size s := by
  have hs := flat_of_before _ hgv
  have hA : ∀ a : Nat, a < s.heap.size → ¬ s.heap.size ≤ a := fun a h => Nat.not_le.mpr h
  have hw := ws_static
  obtain ⟨a, _, _, _, q1, -⟩ := Cond.exactly_spec (hs (.exactly (.string "TriangleSets" 219) "java/lang/String") (by decide +kernel))
  exact ⟨vx_Zqof (hts _ hw.1) (hts _ hw.2.2.1) (hs (.isRef (.static "java/lang/Throwable" "UNASSIGNED_STACK" "[Ljava/lang/StackTraceElement;")) (by decide +kernel)) hA,
    vx_Zqof (hts _ hw.2.1) (hts _ hw.2.2.1) (hs (.isRef (.static "java/lang/Throwable" "SUPPRESSED_SENTINEL" "Ljava/util/List;")) (by decide +kernel)) hA,
    ⟨a, vk_R.of (hts _ hw.2.2.2) q1⟩, fun w hw => va_Nw.of (px_Bt hw) (hts w (List.mem_filter.mp hw).1)⟩
section WS
variable {p : Program} {l : Launch} {e : Env} {s : State} {m : MethodId} {below : List Frame} {meth : Method} {c : Code} {D : va_G} {ct : Nat → ClassId} {b L : Nat} {xs : Nat → Int32}
/-- the law's end -/
theorem ws_end (C : vm_C p s m #[Value.ref b] meth c D ct 0) {ls : vm_L} {vh : vm_H} {k n : Nat} (hk : k ≤ 601024) (hn : n ≤ 7293033) : vm_On p l e room_1 s m #[Value.ref b] below meth c (lw_Z below #[Value.ref b] s) D ct b s.heap.size L xs (vm_max 0) (778, ls, [.int 1]) vh k n := by
  intro H locs la hR hS hl
  obtain ⟨hx, hb, -, hr, hlk, -⟩ := id C
  refine va_forget (fun q hq => hS.2.2 q hq) ?_
  refine W.widen (k := 601024) (n := 7293033) hk hn ?_
  have hb2 : c.code = code := hb
  have hr2 : meth.sig.returnType = ret := hr
  show W p l e room_1 s m #[Value.ref b] below meth c H [] 601024 7293033 (lw_Z below #[Value.ref b] s) (F0 m 778 la [.int 1])
  exact lw_ret hx hb2 hr2 hlk ws_dend
set_option maxHeartbeats 4000000 in
/-- the call of the law's pseudo, and on -/
theorem ws_pseudo (hlt : l.stackTraces = false) (C : vm_C p s m #[Value.ref b] meth c D ct 0) (hXx : px_X s.heap.size s) {vh : vm_H} {ls : vm_L} {x : Int} (h0 : 0 ≤ x) (hx5 : x + 5 ≤ (L : Int)) (hLL : L ≤ 2560) (hls : vq_ag (lwA x) ls) {n0 p0 t0 : Int} {g0 : Int64} {u0 : D5u} {w0 : D5w} (hI : lI L xs vh n0 p0 n0 p0 t0 g0 u0 w0) (hZ : rel5 n0 p0 u0 w0) {jV : Nat → Int} {jF jH : Nat → Int32} {jT : T7} (hCj : jC vh jV jF jH jT) (hRj : jR vh jV jF jH jT) {k n : Nat} (hk : k + 1 ≤ 601024) (hn : n + 6 ≤ 7293033)
    (kk : ∀ (vh' : vm_H) (ls' : vm_L) (k' n' : Nat), k' ≤ k + 1 → n' ≤ n + 6 → vq_ag (lwA (x + 5)) ls' → (∃ (n1 p1 t1 : Int) (g1 : Int64) (ua : D5u) (wa : D5w) (V : Nat → Int) (F H : Nat → Int32) (T : T7), lI L xs vh' n1 p1 n1 p1 t1 g1 ua wa ∧ rel5 n1 p1 ua wa ∧ jC vh' V F H T ∧ jR vh' V F H T) → vm_On p l e room_1 s m #[Value.ref b] below meth c (lw_Z below #[Value.ref b] s) D ct b s.heap.size L xs (vm_max 0) (23, ls', []) vh' k' n') :
    vm_On p l e room_1 s m #[Value.ref b] below meth c (lw_Z below #[Value.ref b] s) D ct b s.heap.size L xs (vm_max 0) (713, ls, [.ref 263, .long (laL (xs (x + 3).toNat) (xs (x + 4).toNat)), .long (laL (xs (x + 1).toNat) (xs (x + 2).toNat)), .ref 1]) vh k n := by
  obtain ⟨fs1, h1⟩ := lI_1 hI
  obtain ⟨f0, h263, hf0⟩ := lI_263 hI
  have kk2 : ∀ (vh2 : vm_H) (k' n' : Nat), k' ≤ k + 1 → n' ≤ n + 6 → ∀ v : Int32, vm_Wp 9 400 0 716 (lwA x) [.int v] vh2 (lwQ L xs x) → vm_On p l e room_1 s m #[Value.ref b] below meth c (lw_Z below #[Value.ref b] s) D ct b s.heap.size L xs (vm_max 0) (716, ls, [.int v]) vh2 k' n' := by
    intro vh2 k' n' hk' hn' v hw
    obtain ⟨⟨pc3, ls3, st3⟩, vh3, g3, q1, q2, q3, q4, q5⟩ := hw ls hls
    have q1 : pc3 = 23 := q1
    have q2 : st3 = [] := q2
    subst q1; subst q2
    exact vm_sound g3 p l e room_1 s m _ below meth c _ D ct b s.heap.size L xs k' n' C (by decide) (by decide) (by show k' + 0 ≤ 601024; omega) (by show n' + 0 ≤ 7293033; omega) (kk vh3 ls3 k' n' hk' hn' q3 q5)
  intro H locs la hR hS hl
  have hl : lv_has la (vm_max 0) (vm_lm b s.heap.size ls) := hl
  generalize hB : laL (xs (x + 3).toNat) (xs (x + 4).toNat) = pb at kk2 ⊢
  generalize hA : laL (xs (x + 1).toNat) (xs (x + 2).toNat) = pa at kk2 ⊢
  show W p l e room_1 s m #[Value.ref b] below meth c H locs k n (lw_Z below #[Value.ref b] s) (F0 m 713 la [.ref (vm_ra b s.heap.size 263), .long pb, .long pa, .ref (vm_ra b s.heap.size 1)])
  obtain ⟨hX, hb, hml, hr, hlk, hnm, hown, hts, hK⟩ := id C
  have hd : (vm_name 124).cls ≠ "java/lang/invoke/MethodHandle" ∧ (vm_name 124).cls ≠ "java/lang/invoke/VarHandle" ∧ (parseMethodDescriptor (vm_name 124).desc).map (fun d => d.parameters.length) = some 4 := by decide +kernel
  have hGs : GoodIn vm_ws (va_wsS (vm_name 0).cls 89 (vm_name 124) (px_cw :: vm_ws)) := by
    intro w hw
    have h1 : w ∈ vm_ws := by
      rcases List.mem_append.mp hw with h | h
      · rcases List.mem_cons.mp h with rfl | h
        · exact vm_has_in px_lw.1
        · rcases List.mem_cons.mp h with rfl | h
          · exact vm_has_in px_lw.2.1
          · rcases List.mem_cons.mp h with rfl | h
            · exact vm_has_in px_lw.2.2
            · cases h
      · exact (px_good w h).1
    exact ⟨h1, good_of_word (vm_ws_good w h1)⟩
  by_cases hbz : pb = 0
  · have hM := px_metz l hlt D ct b s.heap.size L xs vh 1 263 pa h1
    rw [hbz]
    have hrun := vx_runSW (hh := [(0, 10, 13, 13)]) (As := ([.ref 1, .long pa, .long 0, .ref 263] : List Value).map (vm_rv b s.heap.size)) (rest := []) (cells := k) (slots := n) (locs := locs) (H := H) (below := below) (meth := meth) (g := F0 m 713 la [.ref (vm_ra b s.heap.size 263), .long 0, .long pa, .ref (vm_ra b s.heap.size 1)]) (e := e) (R := room_1) (index := 89) ⟨hX, hb, hml, hown, hts⟩ hM
      (vx_cwSW 4 hts hGs rfl rfl rfl hd ⟨by decide, by decide⟩)
      ⟨px_blind D ct b s.heap.size L xs _ vh, fun U hU hW => ⟨rfl, by rw [hU]; exact hR.moved hW.alike, hK.moved hW, hXx.to hW (fun q h1 h2 => by rw [hU]; exact hS.2.1 q h1 h2)⟩⟩ rfl rfl hl.1 rfl (lv_room (Nat.le_of_ble_eq_true rfl)) (vm_dec e0_713) ⟨hk, hn⟩
    intro T hT X
    obtain ⟨v, st₀, t, T', L', g0, X', hLf, e1, e2, ⟨hv, ⟨j, hJ⟩, hz, hk2⟩, st⟩ := hrun T hT X
    have hv : v = some (.int 1) := Outcome.returned.inj hv
    subst hv
    rw [g0] at hz hk2
    have hA2 : s.vm.Alike t.vm := by rw [← e2]; exact X'.warmed.alike
    have hgo := kk2 (vh ++ List.replicate j none) (k + 1) (n + 6) (Nat.le_refl _) (Nat.le_refl _) 1 (lw_psez (lI_j hI j) hZ (jC_al hCj (fun a _ => vm_at_none vh j a)) (jR_al hRj (fun a _ _ => vm_at_none vh j a)) h0 hx5 hLL (hB.trans hbz))
    obtain ⟨t2, a1, b1⟩ := hgo T'.heap (locs ++ L') la (by rw [e1]; exact hJ.moved hA2.symm)
      ⟨Nat.le_trans hS.1 (by rw [e1]; exact hz), fun q h1 h2 => by rw [e1, hk2 q (Nat.lt_of_lt_of_le h1 hS.1) h2]; exact hS.2.1 q h1 h2, fun q hq => by
        rcases List.mem_append.mp hq with h | h
        · exact hS.2.2 q h
        · exact hLf q h⟩ hl T' rfl X'
    exact ⟨t2, st t2 a1, b1⟩
  · obtain ⟨frR, vh1, r, g, hrt, rfl, ⟨f, hf1, hf2⟩, hsame⟩ := m_L_pseudo_n h1 h263 pa pb hbz
    have hM := px_metn (as := [.ref 1, .long pa, .long pb, .ref 263]) l D ct b s.heap.size L xs (Nat.le_of_ble_eq_true rfl) (vm_sound g) hrt
    have hgo := kk2 vh1 k n (Nat.le_succ _) (by omega) 0 (lw_psen (lI_o hI hsame hf1) hZ (jC_al hCj (fun a ha => hsame.2 a (by omega))) (jR_al hRj (fun a _ ha => hsame.2 a (by omega))) h0 hx5 hLL (by rw [hB]; exact hbz) (by rw [hf2, hB, hA]))
    exact vm_after (r := some (.int 0)) (n1 := 0) (s1 := 0) (rest0 := []) hl rfl (vx_runSW (hh := [(0, 10, 13, 13)]) (As := ([.ref 1, .long pa, .long pb, .ref 263] : List Value).map (vm_rv b s.heap.size)) (rest := []) (index := 89) ⟨hX, hb, hml, hown, hts⟩ hM
      (vx_cwSW 4 hts hGs rfl rfl rfl hd ⟨by decide, by decide⟩) (vm_pre hR hK) rfl rfl hl.1 rfl (lv_room (Nat.le_of_ble_eq_true rfl)) (vm_dec e0_713) ⟨by show k + 0 ≤ 601024; omega, by show n + 0 ≤ 7293033; omega⟩) hS hgo
set_option maxHeartbeats 4000000 in
/-- the loop, turn by turn -/
theorem ws_loop (hlt : l.stackTraces = false) (C : vm_C p s m #[Value.ref b] meth c D ct 0) (hXx : px_X s.heap.size s) (hLL : L ≤ 2560) : ∀ (N : Nat) (x : Int) (vh : vm_H) (ls : vm_L) (k n : Nat), 0 ≤ x → x ≤ (L : Int) → ((L : Int) - x).toNat < N → vq_ag (lwA x) ls → (∃ (n1 p1 t1 : Int) (g1 : Int64) (ua : D5u) (wa : D5w) (V : Nat → Int) (F H : Nat → Int32) (T : T7), lI L xs vh n1 p1 n1 p1 t1 g1 ua wa ∧ rel5 n1 p1 ua wa ∧ jC vh V F H T ∧ jR vh V F H T) → (k : Int) ≤ 263 + x → (n : Int) ≤ 138998 + 6 * x → vm_On p l e room_1 s m #[Value.ref b] below meth c (lw_Z below #[Value.ref b] s) D ct b s.heap.size L xs (vm_max 0) (23, ls, []) vh k n := by
  intro N
  induction N with
  | zero => intro x vh ls k n _ _ h; omega
  | succ N ih =>
    intro x vh ls k n h0 hx hN hls hI hk hn
    obtain ⟨n1, p1, t1, g1, ua, wa, jV, jF, jH, jT, hI, hZ, hCj, hRj⟩ := hI
    obtain ⟨⟨pc2, ls2, st2⟩, vh2, g2, h9⟩ := lw_turn hI hZ hCj hRj h0 hx hLL ls hls
    refine vm_sound g2 p l e room_1 s m _ below meth c _ D ct b s.heap.size L xs k n C (by decide) (by decide) (by show k + 0 ≤ 601024; omega) (by show n + 0 ≤ 7293033; omega) ?_
    show vm_On p l e room_1 s m #[Value.ref b] below meth c (lw_Z below #[Value.ref b] s) D ct b s.heap.size L xs (vm_max 0) (pc2, ls2, st2) vh2 k n
    rcases h9 with ⟨q1, q2⟩ | ⟨q1, q2, q3, q4, q5⟩ | ⟨q1, q2, q3, q4, n2, p2, t2, g3, u3, w3, jV2, jF2, jH2, jT2, hI2, hZ2, hC2, hR2⟩
    · have q1 : pc2 = 778 := q1
      have q2 : st2 = [.int 1] := q2
      subst q1; subst q2
      exact ws_end C (by omega) (by omega)
    · have q1 : pc2 = 23 := q1
      have q2 : st2 = [] := q2
      subst q1; subst q2
      exact ih (x + 5) vh2 ls2 k n (by omega) q4 (by omega) q3 q5 (by omega) (by omega)
    · have q1 : pc2 = 713 := q1
      have q2 : st2 = [.ref 263, .long (laL (xs (x + 3).toNat) (xs (x + 4).toNat)), .long (laL (xs (x + 1).toNat) (xs (x + 2).toNat)), .ref 1] := q2
      subst q1; subst q2
      exact ws_pseudo hlt C hXx h0 q4 hLL q3 hI2 hZ2 hC2 hR2 (by omega) (by omega) (fun vh' ls' k' n' hk' hn' hl' hJ => ih (x + 5) vh' ls' k' n' (by omega) q4 (by omega) hl' hJ (by omega) (by omega))
end WS
theorem pr_ag : vq_ag (lwA 0) pr_L := by
  intro i v h
  match i, h with
  | 0, h => cases h; rfl
  | 1, h => cases h; rfl
  | 2, h => cases h; rfl
  | 3, h => cases h; rfl
  | 4, h => cases h; rfl
  | 5, h => cases h
  | 6, h => cases h
  | 7, h => cases h
  | n + 8, h => cases h
set_option maxHeartbeats 4000000 in
set_option maxRecDepth 100000 in
/-- THE LAW, from its entry -/
theorem whole_start {p : Program} {e : Env} {s : State} {m : MethodId} {below : List Frame} {meth : Method} {c : Code} (l : Launch) (hlt : l.stackTraces = false) {b L : Nat} {xs : Nat → Int32} (hL : L ≤ 2560) (C0 : lw_At p s m meth c b L xs) : W p l e room_1 s m #[Value.ref b] below meth c s.heap [] 0 0 (lw_Z below #[Value.ref b] s) (entryFrame m ([Value.ref b] : List Value).toArray 8) := by
  obtain ⟨hx, hb, hr, hml, hown, hts, hX, hbl, hlocks, hgv, hnm⟩ := id C0
  obtain ⟨D, ct, hK⟩ := ws_known hts
  have hXx := ws_X hts hgv
  have C : vm_C p s m #[Value.ref b] meth c D ct 0 := ⟨hx, hb, hml, hr, hlocks, hnm, hown, fun w h => hts w (List.mem_filter.mp h).1, hK⟩
  have hl0 := lv_entry ([.ref b]) (n := 8) (Nat.le_of_ble_eq_true rfl)
  rw [lg_entry_eq]
  have hR : vm_R D ct b s.heap.size L xs [some (.inl (0, L, .inl xs))] s s.heap := ⟨rfl, rfl, hbl, hX, fun n c h => by simp at h⟩
  obtain ⟨vh, g, hz, hH⟩ := pr_go (.inl (0, L, .inl xs))
  have h0 : vm_at vh 0 = some (.inl (0, L, .inl xs)) := by unfold vm_at; rw [hz]
  refine vm_sound g p l e room_1 s m _ below meth c _ D ct b s.heap.size L xs 0 0 C (by decide) (by decide) (Nat.le_of_ble_eq_true rfl) (Nat.le_of_ble_eq_true rfl) ?_ s.heap [] _ hR va_S.rf hl0
  show vm_On p l e room_1 s m #[Value.ref b] below meth c (lw_Z below #[Value.ref b] s) D ct b s.heap.size L xs (vm_max 0) (23, pr_L, []) vh (0 + 263) (0 + 138998)
  intro H locs la hR2 hS2 hl2
  exact ws_loop hlt C hXx hL _ 0 (pz vh) pr_L (0 + 263) (0 + 138998) (by omega) (by omega) (Nat.lt_succ_self _) pr_ag (pz_J hH h0) (by omega) (by omega) H locs la (pz_R hH hR2) hS2 hl2
