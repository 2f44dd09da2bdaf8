def R_law : String := "TriangleSetsLaw"
def lw_P (b : Addr) (xs : List Int32) (args : Array Value) (s : State) : Prop := args = #[.ref b] ∧ s.IntsAt b xs ∧ xs.length ≤ 5 ∧ (Jvm.Cond.and given_1 narrow_1).before args s = true
def lw_Q (_ : Array Value) (s : State) (o : Outcome) (t : State) : Prop := o = .returned (some (.int 1)) ∧ Framed s o t [] 600002 7302232
def lw_Z (below : List Frame) (a : Array Value) (s : State) : State → Prop := fun t => ∃ o, t.status = .running ∧ Ended t below o ∧ lw_Q a s o t
/-- the law's own end, with 1 on the stack, nothing written that was there before, its room as the claim has it -/
theorem lw_ret {p : Program} {l : Launch} {e : Env} {s : State} {m : MethodId} {below : List Frame} {meth : Method} {c : Code} {b : Nat} (hx : p.tables.exec = Jvm.exec) (hb : c.code = code) (hr : meth.sig.returnType = ret) (hlocks : meth.locks = false) {pc : Nat} {H : Heap} {ls : Array Slot} (hdg : decode code pc = .ok (.ireturn, 1)) : W p l e room_1 s m #[Value.ref b] below meth c H [] 600002 7302232 (lw_Z below #[Value.ref b] s) (F0 m pc ls [.int 1]) := by
  intro T hT X
  obtain ⟨fs, hret, hrun, hended, hW, hframe⟩ := X.leave (v := some (.int 1)) (hlocks := hlocks) (fun h => by rw [hr] at h; cases h)
  have hmeth' : T.vm.method? m = some meth := X.method'
  refine ⟨T.setFrames fs, ?_, .returned (some (.int 1)), hrun, hended, rfl, ⟨_, rfl⟩, hW, hframe⟩
  jvm_step X.here [X.here.top, hx, hb, hdg, hmeth', hr, ret, narrow_b1]
  (try refine ⟨rfl, ?_⟩); (try refine ⟨rfl, ?_⟩)
  first | (intro acts; rw [hret _ acts rfl rfl rfl]) | rw [hret _ _ rfl rfl rfl]
  exact Steps.refl _
/-- what holds at the law's entry: the machine, the code, the tables' words (any of lw_tbl by 'hts w (by decide +kernel)'), the script of L ints xs at the cell b, what the Statement gives of the start (any of its parts by flat_of_before) -/
def lw_At (p : Program) (s : State) (m : MethodId) (meth : Method) (c : Code) (b L : Nat) (xs : Nat → Int32) : Prop :=
  p.tables.exec = Jvm.exec ∧ c.code = code ∧ meth.sig.returnType = ret ∧ c.maxLocals = 8 ∧ s.vm.findClass R_law = some m.cls ∧ (∀ w ∈ lw_tbl, w.before #[Value.ref b] s = true) ∧ va_X b L xs s s.heap ∧ b < s.heap.size ∧ meth.locks = false ∧ (Jvm.Cond.and given_1 narrow_1).before #[Value.ref b] s = true ∧ meth.name = "law"
theorem ws_d807 : decode code 807 = .ok (.ireturn, 1) := by decide +kernel
set_option maxRecDepth 100000 in
theorem ws_over : Cond.arrayOver (.object vm_e3) ∈ lw_tbl ∧ Cond.arrayOver (.object vm_e4) ∈ lw_tbl := ⟨List.mem_of_getElem? (i := 99) (by decide +kernel), List.mem_of_getElem? (i := 127) (by decide +kernel)⟩
set_option maxRecDepth 100000 in
theorem ws_static : Cond.laysStatic Bundle.tN "UNASSIGNED_STACK" Bundle.steD ∈ lw_tbl ∧ Cond.laysStatic Bundle.tN "SUPPRESSED_SENTINEL" Bundle.listD ∈ lw_tbl ∧ Cond.initialized Bundle.tN ∈ lw_tbl ∧ Cond.stringRef "TriangleSets" 219 "b is 0" ∈ lw_tbl := ⟨List.mem_of_getElem? (i := 589) (by decide +kernel), List.mem_of_getElem? (i := 591) (by decide +kernel), List.mem_of_getElem? (i := 62) (by decide +kernel), List.mem_of_getElem? (i := 601) (by decide +kernel)⟩
/-- the tables' numbers of the kinds, and of the arrays -/
theorem ws_known {s : State} {a : Array Value} (hts : ∀ w ∈ lw_tbl, w.before a s = true) : ∃ (D : va_G) (ct : Nat → ClassId), vm_K D ct s := by
  have hts' : ∀ w ∈ vm_ws, w.before a s = true := fun w h => hts w (List.mem_filter.mp h).1
  have h1 : ∀ k : Nat, ∃ y : ClassId × (Nat → Nat), ∀ q : vw_C, vm_cls[k]? = some q → u_Kn s q.1 q.2.1 q.2.2 y.1 y.2 := by
    intro k
    cases hq : vm_cls[k]? with
    | none => exact ⟨(0, fun _ => 0), fun q h => by cases h⟩
    | some q =>
      obtain ⟨cC, iS, h⟩ := u_known (C := q.1) (T := q.2.1) (N := q.2.2) (n := q.2.2) hts' (vm_cin hq) (hts' _ (vm_cfacts hq).2.2.2.1)
      exact ⟨(cC, iS), fun q' h' => by cases h'; exact h⟩
  obtain ⟨D, hD⟩ := Classical.axiomOfChoice h1
  obtain ⟨c0, k0, p0, a0, b0, d0⟩ := Cond.arrayClass_spec (hts' _ vm_arI)
  obtain ⟨c1, k1, p1, a1, b1, d1⟩ := Cond.arrayClass_spec (hts' _ vm_arL)
  obtain ⟨c2, k2, p2, a2, b2, d2⟩ := Cond.arrayClass_spec (hts' _ vm_arZ)
  have hov := ws_over
  obtain ⟨p3, c3, k3, q3, -, b3, d3, a3⟩ := Cond.arrayOver_spec (hts _ hov.1)
  obtain ⟨p4, c4, k4, q4, -, b4, d4, a4⟩ := Cond.arrayOver_spec (hts _ hov.2)
  refine ⟨(fun k => (D k).1, fun k => (D k).2), (fun t => match t with | 0 => c0 | 1 => c1 | 2 => c2 | 3 => c3 | _ => c4), ⟨fun k q hq => hD k q hq, fun k q hq => ?_⟩, va_AO.of (hts _ hov.1), va_AO.of (hts _ hov.2), fun w hw => va_Nw.of (vm_nwt hw) (hts w (List.mem_filter.mp hw).1)⟩
  match k, hq with
  | 0, hq => cases hq; exact ⟨fun N z => ⟨fun k h => (by cases h), k0, b0, p0, d0⟩, a0⟩
  | 1, hq => cases hq; exact ⟨fun N z => ⟨fun k h => (by cases h), k1, b1, p1, d1⟩, a1⟩
  | 2, hq => cases hq; exact ⟨fun N z => ⟨fun k h => (by cases h), k2, b2, p2, d2⟩, a2⟩
  | 3, hq => cases hq; exact ⟨fun N z => ⟨fun k h => (by cases h), k3, b3, p3, d3⟩, k3, p3, b3, d3, q3, a3⟩
  | 4, hq => cases hq; exact ⟨fun N z => ⟨fun k h => (by cases h), k4, b4, p4, d4⟩, k4, p4, b4, d4, q4, a4⟩
  | n + 5, hq => simp [vm_tys] at hq
theorem ws_X {s : State} {b : Addr} (hts : ∀ w ∈ lw_tbl, w.before #[Value.ref b] s = true) (hgv : (Jvm.Cond.and given_1 narrow_1).before #[Value.ref b] s = true) : px_X s.heap.size s := by
  have hs := flat_of_before _ hgv
  have hA : ∀ a : Nat, a < s.heap.size → ¬ s.heap.size ≤ a := fun a h => Nat.not_le.mpr h
  have hw := ws_static
  obtain ⟨a, _, _, _, q1, -⟩ := Cond.exactly_spec (hs (.exactly (.string "TriangleSets" 219) "java/lang/String") (by decide +kernel))
  exact ⟨vx_Zqof (hts _ hw.1) (hts _ hw.2.2.1) (hs (.isRef (.static "java/lang/Throwable" "UNASSIGNED_STACK" "[Ljava/lang/StackTraceElement;")) (by decide +kernel)) hA,
    vx_Zqof (hts _ hw.2.1) (hts _ hw.2.2.1) (hs (.isRef (.static "java/lang/Throwable" "SUPPRESSED_SENTINEL" "Ljava/util/List;")) (by decide +kernel)) hA,
    ⟨a, vk_R.of (hts _ hw.2.2.2) q1⟩, fun w hw => va_Nw.of (px_Bt hw) (hts w (List.mem_filter.mp hw).1)⟩
section WS
variable {p : Program} {l : Launch} {e : Env} {s : State} {m : MethodId} {below : List Frame} {meth : Method} {c : Code} {D : va_G} {ct : Nat → ClassId} {b L : Nat} {xs : Nat → Int32}
/-- the law's end -/
theorem ws_end (C : vm_C p s m #[Value.ref b] meth c D ct 0) {ls : vm_L} {vh : vm_H} {k n : Nat} (hk : k ≤ 600002) (hn : n ≤ 7302232) : vm_On p l e room_1 s m #[Value.ref b] below meth c (lw_Z below #[Value.ref b] s) D ct b s.heap.size L xs (vm_max 0) (807, ls, [.int 1]) vh k n := by
  intro H locs la hR hS hl
  obtain ⟨hx, hb, -, hr, hlk, -⟩ := id C
  refine va_forget (fun q hq => hS.2.2 q hq) ?_
  refine W.widen (k := 600002) (n := 7302232) hk hn ?_
  have hb2 : c.code = code := hb
  have hr2 : meth.sig.returnType = ret := hr
  show W p l e room_1 s m #[Value.ref b] below meth c H [] 600002 7302232 (lw_Z below #[Value.ref b] s) (F0 m 807 la [.int 1])
  exact lw_ret hx hb2 hr2 hlk ws_d807
/-- a walk to the law's end -/
theorem ws_to (C : vm_C p s m #[Value.ref b] meth c D ct 0) {fr : vm_F} {vh : vm_H} {k n : Nat} (hk : k ≤ 600002) (hn : n ≤ 7302232) (h : vm_Wp 9 400 0 fr vh (fun fr _ => fr.1 = 807 ∧ fr.2.2 = [.int 1])) : vm_On p l e room_1 s m #[Value.ref b] below meth c (lw_Z below #[Value.ref b] s) D ct b s.heap.size L xs (vm_max 0) fr vh k n := by
  obtain ⟨⟨pc2, ls2, st2⟩, vh2, g, h1, h2⟩ := h
  have h1 : pc2 = 807 := h1
  have h2 : st2 = [.int 1] := h2
  subst h1; subst h2
  exact vm_sound g p l e room_1 s m _ below meth c _ D ct b s.heap.size L xs k n C (by decide) (by decide) hk hn (ws_end C hk hn)
set_option maxHeartbeats 4000000 in
/-- the call of the law's pseudo, and on -/
theorem ws_pseudo (hlt : l.stackTraces = false) (C : vm_C p s m #[Value.ref b] meth c D ct 0) (hXx : px_X s.heap.size s) {vh : vm_H} (h0 : vm_at vh 0 = some (.inl (0, 5, .inl xs))) (h1 : vm_at vh 1 = some (.inr (5, [.ref 2, .ref 6, .ref 55, .int 0, .ref 56, .int 0, .ref 217, .ref 219, .ref 224, .ref 227, .ref 230, .ref 233, .ref 234, .ref 237, .int 0, .int 0, .int 0, .int 0]))) (h238 : vm_at vh 238 = some (.inr (6, [.int 0, .int 0, .ref 239, .ref 240, .int 0, .ref 241, .ref 242, .ref 243, .ref 244, .ref 245, .int 0, .int 0, .int 0, .int 0, .int 0, .int 0, .int 0, .int 0, .int 0, .int 0, .ref 246, .ref 247, .ref 248, .ref 249, .ref 250, .int 0, .ref 251, .int 0, .int 0, .ref 252, .ref 253, .ref 254, .ref 255, .ref 256, .ref 257, .ref 258, .ref 259, .ref 260, .int 0, .ref 261, .int 0, .int 0, .int 0, .ref 262]))) {f263 : Nat → Int64} (h263 : vm_at vh 263 = some (.inl (1, 1, .inr (.inl f263)))) {k n : Nat} (hk : k + 1 ≤ 600002) (hn : n + 6 ≤ 7302232) :
    vm_On p l e room_1 s m #[Value.ref b] below meth c (lw_Z below #[Value.ref b] s) D ct b s.heap.size L xs (vm_max 0) (715, pr_L, [.ref 263, .long (p_b xs), .long (p_a xs), .ref 1]) vh k n := by
  intro H locs la hR hS hl
  have hl : lv_has la (vm_max 0) (vm_lm b s.heap.size pr_L) := hl
  show W p l e room_1 s m #[Value.ref b] below meth c H locs k n (lw_Z below #[Value.ref b] s) (F0 m 715 la [.ref (vm_ra b s.heap.size 263), .long (p_b xs), .long (p_a xs), .ref (vm_ra b s.heap.size 1)])
  obtain ⟨hX, hb, hml, hr, hlk, hnm, hown, hts, hK⟩ := id C
  have hd : (vm_name 56).cls ≠ "java/lang/invoke/MethodHandle" ∧ (vm_name 56).cls ≠ "java/lang/invoke/VarHandle" ∧ (parseMethodDescriptor (vm_name 56).desc).map (fun d => d.parameters.length) = some 4 := by decide +kernel
  have hGs : GoodIn vm_ws (va_wsS (vm_name 0).cls 89 (vm_name 56) (px_cw :: vm_ws)) := by
    intro w hw
    have h1 : w ∈ vm_ws := by
      rcases List.mem_append.mp hw with h | h
      · rcases List.mem_cons.mp h with rfl | h
        · exact vm_has_in px_lw.1
        · rcases List.mem_cons.mp h with rfl | h
          · exact vm_has_in px_lw.2.1
          · rcases List.mem_cons.mp h with rfl | h
            · exact vm_has_in px_lw.2.2
            · cases h
      · exact (px_good w h).1
    exact ⟨h1, good_of_word (vm_ws_good w h1)⟩
  by_cases hbz : p_b xs = 0
  · have hM := px_metz l hlt D ct b s.heap.size L xs vh 1 263 (p_a xs) h1
    rw [hbz]
    have hrun := vx_runSW (hh := [(0, 10, 13, 13)]) (As := ([.ref 1, .long (p_a xs), .long 0, .ref 263] : List Value).map (vm_rv b s.heap.size)) (rest := []) (cells := k) (slots := n) (locs := locs) (H := H) (below := below) (meth := meth) (g := F0 m 715 la [.ref (vm_ra b s.heap.size 263), .long 0, .long (p_a xs), .ref (vm_ra b s.heap.size 1)]) (e := e) (R := room_1) (index := 89) ⟨hX, hb, hml, hown, hts⟩ hM
      (vx_cwSW 4 hts hGs rfl rfl rfl hd ⟨by decide, by decide⟩)
      ⟨px_blind D ct b s.heap.size L xs _ vh, fun U hU hW => ⟨rfl, by rw [hU]; exact hR.moved hW.alike, hK.moved hW, hXx.to hW (fun q h1 h2 => by rw [hU]; exact hS.2.1 q h1 h2)⟩⟩ rfl rfl hl.1 rfl (lv_room (Nat.le_of_ble_eq_true rfl)) (vm_dec e0_715) ⟨hk, hn⟩
    intro T hT X
    obtain ⟨v, st₀, t, T', L', g0, X', hLf, e1, e2, ⟨hv, ⟨j, hJ⟩, hz, hk2⟩, st⟩ := hrun T hT X
    have hv : v = some (.int 1) := Outcome.returned.inj hv
    subst hv
    rw [g0] at hz hk2
    have hA : s.vm.Alike t.vm := by rw [← e2]; exact X'.warmed.alike
    have hgo := ws_to (p := p) (l := l) (e := e) (below := below) (L := L) (xs := xs) (k := k + 1) (n := n + 6) C hk hn (law_z (vm_at_app (t := List.replicate j none) h0) (vm_at_app (t := List.replicate j none) h238) hbz)
    obtain ⟨t2, a1, b1⟩ := hgo T'.heap (locs ++ L') la (by rw [e1]; exact hJ.moved hA.symm)
      ⟨Nat.le_trans hS.1 (by rw [e1]; exact hz), fun q h1 h2 => by rw [e1, hk2 q (Nat.lt_of_lt_of_le h1 hS.1) h2]; exact hS.2.1 q h1 h2, fun q hq => by
        rcases List.mem_append.mp hq with h | h
        · exact hS.2.2 q h
        · exact hLf q h⟩ hl T' rfl X'
    exact ⟨t2, st t2 a1, b1⟩
  · obtain ⟨frR, vh1, g, r, hrt, rfl, ⟨f, hf1, hf2⟩, hsame⟩ := m_L_pseudo_n h1 h263 (p_a xs) (p_b xs) hbz
    have hM := px_metn (as := [.ref 1, .long (p_a xs), .long (p_b xs), .ref 263]) l D ct b s.heap.size L xs (Nat.le_of_ble_eq_true rfl) (vm_sound g) hrt
    have hgo := ws_to (p := p) (l := l) (e := e) (below := below) (L := L) (xs := xs) (k := k) (n := n) C (by omega) (by omega) (law_n ((hsame 0 (by decide)).trans h0) ((hsame 238 (by decide)).trans h238) hf1 hbz hf2)
    exact vm_after (r := some (.int 0)) (n1 := 0) (s1 := 0) (rest0 := []) hl rfl (vx_runSW (hh := [(0, 10, 13, 13)]) (As := ([.ref 1, .long (p_a xs), .long (p_b xs), .ref 263] : List Value).map (vm_rv b s.heap.size)) (rest := []) (index := 89) ⟨hX, hb, hml, hown, hts⟩ hM
      (vx_cwSW 4 hts hGs rfl rfl rfl hd ⟨by decide, by decide⟩) (vm_pre hR hK) rfl rfl hl.1 rfl (lv_room (Nat.le_of_ble_eq_true rfl)) (vm_dec e0_715) ⟨by show k + 0 ≤ 600002; omega, by show n + 0 ≤ 7302232; omega⟩) hS hgo
end WS
set_option maxHeartbeats 4000000 in
set_option maxRecDepth 100000 in
/-- THE LAW, from its entry -/
theorem whole_start {p : Program} {e : Env} {s : State} {m : MethodId} {below : List Frame} {meth : Method} {c : Code} (l : Launch) (hlt : l.stackTraces = false) {b L : Nat} {xs : Nat → Int32} (hL : L ≤ 5) (C0 : lw_At p s m meth c b L xs) : W p l e room_1 s m #[Value.ref b] below meth c s.heap [] 0 0 (lw_Z below #[Value.ref b] s) (entryFrame m ([Value.ref b] : List Value).toArray 8) := by
  obtain ⟨hx, hb, hr, hml, hown, hts, hX, hbl, hlocks, hgv, hnm⟩ := id C0
  obtain ⟨D, ct, hK⟩ := ws_known hts
  have hXx := ws_X hts hgv
  have C : vm_C p s m #[Value.ref b] meth c D ct 0 := ⟨hx, hb, hml, hr, hlocks, hnm, hown, fun w h => hts w (List.mem_filter.mp h).1, hK⟩
  have hl0 := lv_entry ([.ref b]) (n := 8) (Nat.le_of_ble_eq_true rfl)
  rw [lg_entry_eq]
  have hR : vm_R D ct b s.heap.size L xs [some (.inl (0, L, .inl xs))] s s.heap := ⟨rfl, rfl, hbl, hX, fun n c h => by simp at h⟩
  obtain ⟨vh, g, hz, hO, hI, hJ⟩ := pr_go (.inl (0, L, .inl xs))
  have h0 : vm_at vh 0 = some (.inl (0, L, .inl xs)) := by unfold vm_at; rw [hz]
  refine vm_sound g p l e room_1 s m _ below meth c _ D ct b s.heap.size L xs 0 0 C (by decide) (by decide) (Nat.le_of_ble_eq_true rfl) (Nat.le_of_ble_eq_true rfl) ?_ s.heap [] _ hR va_S.rf hl0
  show vm_On p l e room_1 s m #[Value.ref b] below meth c (lw_Z below #[Value.ref b] s) D ct b s.heap.size L xs (vm_max 0) (23, pr_L, []) vh (0 + 263) (0 + 138998)
  match L, hL, h0 with
  | 0, _, h0 => exact ws_to C (by decide) (by decide) (law_s0 h0)
  | 1, _, h0 => exact ws_to C (by decide) (by decide) (law_s1 h0)
  | 2, _, h0 => exact ws_to C (by decide) (by decide) (law_s2 h0)
  | 3, _, h0 => exact ws_to C (by decide) (by decide) (law_s3 h0)
  | 4, _, h0 => exact ws_to C (by decide) (by decide) (law_s4 h0)
  | 5, _, h0 =>
    have h1 := hO 1 5 0 _ rfl
    have h2 := hO 2 0 0 _ rfl
    obtain ⟨f3, h3⟩ := hI 3 2 8 _ rfl
    obtain ⟨f5, h5⟩ := hI 5 0 8 _ rfl
    have h217 := hO 217 4 0 _ rfl
    have h224 := hO 224 1 0 _ rfl
    have h227 := hO 227 1 0 _ rfl
    have h230 := hO 230 1 0 _ rfl
    obtain ⟨f233, h233⟩ := hI 233 0 8 _ rfl
    have h238 := hO 238 6 0 _ rfl
    obtain ⟨f239, h239⟩ := hI 239 2 8 _ rfl
    obtain ⟨f240, h240⟩ := hI 240 0 8 _ rfl
    obtain ⟨f241, h241⟩ := hI 241 2 16 _ rfl
    obtain ⟨f242, h242⟩ := hI 242 0 72 _ rfl
    obtain ⟨f263, h263⟩ := hJ 263 1 1 _ rfl
    obtain ⟨fr2, vh2, g2, h9⟩ := law_5 h0 h1 h2 h3 h5 h217 h224 h227 h230 h233 h238 h239 h240 h241 h242
    refine vm_sound g2 p l e room_1 s m _ below meth c _ D ct b s.heap.size 5 xs (0 + 263) (0 + 138998) C (by decide) (by decide) (Nat.le_of_ble_eq_true rfl) (Nat.le_of_ble_eq_true rfl) ?_
    rcases h9 with h9 | ⟨rfl, h9⟩
    · obtain ⟨pc2, ls2, st2⟩ := fr2
      have q1 : pc2 = 807 := h9.1
      have q2 : st2 = [.int 1] := h9.2
      subst q1; subst q2
      exact ws_end C (Nat.le_of_ble_eq_true rfl) (Nat.le_of_ble_eq_true rfl)
    · rw [h9]
      exact ws_pseudo hlt C hXx h0 h1 h238 h263 (Nat.le_of_ble_eq_true rfl) (Nat.le_of_ble_eq_true rfl)
  | n + 6, hL, _ => exact absurd hL (by omega)
