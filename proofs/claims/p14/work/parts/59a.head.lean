/-! What stands at the loop's head. What lies past an array's end is nothing: so it may be said to be 0. -/
theorem arrV_cg {cI : ClassId} {N : Nat} {f g : Nat → Value} (h : ∀ j, j < N → f j = g j) : arrV cI N f = arrV cI N g := by
  unfold arrV
  have e : (fun j : Fin N => f j.val) = fun j : Fin N => g j.val := funext fun j => h j.val j.isLt
  rw [e]
theorem vm_R.zero {D : va_G} {ct : Nat → ClassId} {bs b L n t w : Nat} {xs : Nat → Int32} {vh : vm_H} {U : State} {H : Heap} {f g : Nat → Int32} (h : vm_R D ct bs b L xs vh U H) (hn : n ≠ 0) (hc : vm_at vh n = some (.inl (t, w, .inl f))) (hz : ∀ j, j < w → f j = g j) : vm_R D ct bs b L xs (vh.set n (some (.inl (t, w, .inl g)))) U H := by
  obtain ⟨h1, h2, h3, h4, h5⟩ := h
  obtain ⟨m, rfl⟩ : ∃ m, n = m + 1 := ⟨n - 1, by omega⟩
  have hcs := vm_at_some hc
  have hlt : m + 1 < vh.length := (List.getElem?_eq_some_iff.mp hcs).1
  refine ⟨by rw [List.length_set]; exact h1, by rw [List.getElem?_set_ne (by omega)]; exact h2, h3, h4, fun i c hi => ?_⟩
  by_cases e : i = m
  · subst e
    rw [List.getElem?_set_self hlt] at hi
    cases hi
    have q := h5 i _ hcs
    show H[b + i]? = some (vp_cell (ct t) (w, .inl g))
    have q2 : H[b + i]? = some (vp_cell (ct t) (w, .inl f)) := q
    rw [q2, vp_cell_i, vp_cell_i, arrV_cg (g := fun j => .int (g j)) fun j hj => by rw [hz j hj]]
  · rw [List.getElem?_set_ne (by omega)] at hi
    exact h5 i c hi
theorem pr_z0 {vh : vm_H} {n a b t w : Nat} {f : Nat → Int32} (h : pr_z vh n a b = true) (hc : vm_at vh n = some (.inl (t, w, .inl f))) (hw : w = a * b) (hb : 0 < b) : ∀ j, j < w → f j = 0 := by
  intro j hj
  unfold pr_z at h
  rw [hc] at h
  have h1 := List.all_eq_true.mp h (j / b) (List.mem_range.mpr (by rw [Nat.div_lt_iff_lt_mul hb]; omega))
  have h2 := of_decide_eq_true (List.all_eq_true.mp h1 (j % b) (List.mem_range.mpr (Nat.mod_lt _ hb)))
  rw [Nat.div_add_mod] at h2
  exact h2
theorem pr_f0 {vh : vm_H} {n a b c t w : Nat} {f : Nat → Option Nat} (h : pr_f vh n a b c = true) (hc : vm_at vh n = some (.inl (t, w, .inr (.inr (.inr (.inr f)))))) : ∀ j, j < a → f j = some (b + c * j) := by
  intro j hj
  unfold pr_f at h
  rw [hc] at h
  exact of_decide_eq_true (List.all_eq_true.mp h j (List.mem_range.mpr hj))
def pz (vh : vm_H) : vm_H := (((((((vh.set 5 (some (.inl (0, 8, .inl fun _ => 0)))).set 240 (some (.inl (0, 8, .inl fun _ => 0)))).set 242 (some (.inl (0, 72, .inl fun _ => 0)))).set 259 (some (.inl (2, 16384, .inl fun _ => 0)))).set 3 (some (.inl (2, 8, .inl fun _ => 0)))).set 55 (some (.inl (2, 16, .inl fun _ => 0)))).set 239 (some (.inl (2, 8, .inl fun _ => 0)))).set 241 (some (.inl (2, 16, .inl fun _ => 0)))
section PZ
variable {vh : vm_H}
theorem pz_o {a : Nat} (h5 : a ≠ 5) (h0 : a ≠ 240) (h2 : a ≠ 242) (h9 : a ≠ 259) (h3 : a ≠ 3) (h55 : a ≠ 55) (h239 : a ≠ 239) (h241 : a ≠ 241) : vm_at (pz vh) a = vm_at vh a := by
  unfold pz
  rw [vm_at_ne (Ne.symm h241), vm_at_ne (Ne.symm h239), vm_at_ne (Ne.symm h55), vm_at_ne (Ne.symm h3), vm_at_ne (Ne.symm h9), vm_at_ne (Ne.symm h2), vm_at_ne (Ne.symm h0), vm_at_ne (Ne.symm h5)]
theorem pr_i {n t w : Nat} (h : pr_H vh) (e : pr_D[n]? = some (1, t, w, [])) : ∃ f, vm_at vh n = some (.inl (t, w, .inl f)) := h.1.2.1 n t w [] e
theorem pz_5 (h : pr_H vh) : vm_at (pz vh) 5 = some (.inl (0, 8, .inl fun _ => 0)) := by
  obtain ⟨f, hf⟩ := pr_i (n := 5) (t := 0) (w := 8) h rfl
  unfold pz
  rw [vm_at_ne (by decide), vm_at_ne (by decide), vm_at_ne (by decide), vm_at_ne (by decide), vm_at_ne (by decide), vm_at_ne (by decide), vm_at_ne (by decide)]
  exact vm_at_eq hf
theorem pz_240 (h : pr_H vh) : vm_at (pz vh) 240 = some (.inl (0, 8, .inl fun _ => 0)) := by
  obtain ⟨f, hf⟩ := pr_i (n := 240) (t := 0) (w := 8) h rfl
  unfold pz
  rw [vm_at_ne (by decide), vm_at_ne (by decide), vm_at_ne (by decide), vm_at_ne (by decide), vm_at_ne (by decide), vm_at_ne (by decide)]
  exact vm_at_eq ((vm_at_ne (by decide)).trans hf)
theorem pz_242 (h : pr_H vh) : vm_at (pz vh) 242 = some (.inl (0, 72, .inl fun _ => 0)) := by
  obtain ⟨f, hf⟩ := pr_i (n := 242) (t := 0) (w := 72) h rfl
  unfold pz
  rw [vm_at_ne (by decide), vm_at_ne (by decide), vm_at_ne (by decide), vm_at_ne (by decide), vm_at_ne (by decide)]
  exact vm_at_eq ((vm_at_ne (by decide)).trans ((vm_at_ne (by decide)).trans hf))
theorem pz_259 (h : pr_H vh) : vm_at (pz vh) 259 = some (.inl (2, 16384, .inl fun _ => 0)) := by
  obtain ⟨f, hf⟩ := pr_i (n := 259) (t := 2) (w := 16384) h rfl
  unfold pz
  rw [vm_at_ne (by decide), vm_at_ne (by decide), vm_at_ne (by decide), vm_at_ne (by decide)]
  exact vm_at_eq ((vm_at_ne (by decide)).trans ((vm_at_ne (by decide)).trans ((vm_at_ne (by decide)).trans hf)))
theorem pz_3 (h : pr_H vh) : vm_at (pz vh) 3 = some (.inl (2, 8, .inl fun _ => 0)) := by
  obtain ⟨f, hf⟩ := pr_i (n := 3) (t := 2) (w := 8) h rfl
  unfold pz
  rw [vm_at_ne (by decide), vm_at_ne (by decide), vm_at_ne (by decide)]
  exact vm_at_eq ((vm_at_ne (by decide)).trans ((vm_at_ne (by decide)).trans ((vm_at_ne (by decide)).trans ((vm_at_ne (by decide)).trans hf))))
theorem pz_55 (h : pr_H vh) : vm_at (pz vh) 55 = some (.inl (2, 16, .inl fun _ => 0)) := by
  obtain ⟨f, hf⟩ := pr_i (n := 55) (t := 2) (w := 16) h rfl
  unfold pz
  rw [vm_at_ne (by decide), vm_at_ne (by decide)]
  exact vm_at_eq ((vm_at_ne (by decide)).trans ((vm_at_ne (by decide)).trans ((vm_at_ne (by decide)).trans ((vm_at_ne (by decide)).trans ((vm_at_ne (by decide)).trans hf)))))
theorem pz_239 (h : pr_H vh) : vm_at (pz vh) 239 = some (.inl (2, 8, .inl fun _ => 0)) := by
  obtain ⟨f, hf⟩ := pr_i (n := 239) (t := 2) (w := 8) h rfl
  unfold pz
  rw [vm_at_ne (by decide)]
  exact vm_at_eq ((vm_at_ne (by decide)).trans ((vm_at_ne (by decide)).trans ((vm_at_ne (by decide)).trans ((vm_at_ne (by decide)).trans ((vm_at_ne (by decide)).trans ((vm_at_ne (by decide)).trans hf))))))
theorem pz_241 (h : pr_H vh) : vm_at (pz vh) 241 = some (.inl (2, 16, .inl fun _ => 0)) := by
  obtain ⟨f, hf⟩ := pr_i (n := 241) (t := 2) (w := 16) h rfl
  unfold pz
  exact vm_at_eq ((vm_at_ne (by decide)).trans ((vm_at_ne (by decide)).trans ((vm_at_ne (by decide)).trans ((vm_at_ne (by decide)).trans ((vm_at_ne (by decide)).trans ((vm_at_ne (by decide)).trans ((vm_at_ne (by decide)).trans hf)))))))
theorem pz_R {D : va_G} {ct : Nat → ClassId} {bs b L : Nat} {xs : Nat → Int32} {U : State} {H : Heap} (h : pr_H vh) (hR : vm_R D ct bs b L xs vh U H) : vm_R D ct bs b L xs (pz vh) U H := by
  obtain ⟨f1, e1⟩ := pr_i (n := 5) (t := 0) (w := 8) h rfl
  obtain ⟨f2, e2⟩ := pr_i (n := 240) (t := 0) (w := 8) h rfl
  obtain ⟨f3, e3⟩ := pr_i (n := 242) (t := 0) (w := 72) h rfl
  obtain ⟨f4, e4⟩ := pr_i (n := 259) (t := 2) (w := 16384) h rfl
  obtain ⟨f5, e5⟩ := pr_i (n := 3) (t := 2) (w := 8) h rfl
  obtain ⟨f6, e6⟩ := pr_i (n := 55) (t := 2) (w := 16) h rfl
  obtain ⟨f7, e7⟩ := pr_i (n := 239) (t := 2) (w := 8) h rfl
  obtain ⟨f8, e8⟩ := pr_i (n := 241) (t := 2) (w := 16) h rfl
  unfold pz
  exact (vm_R.zero (f := f8) (vm_R.zero (f := f7) (vm_R.zero (f := f6) (vm_R.zero (f := f5) (vm_R.zero (f := f4) (vm_R.zero (f := f3) (vm_R.zero (f := f2) (vm_R.zero (f := f1) hR (by decide) e1 (pr_z0 h.2.1 e1 rfl (by decide))) (by decide) ((vm_at_ne (by decide)).trans e2) (pr_z0 h.2.2.1 e2 rfl (by decide))) (by decide) ((vm_at_ne (by decide)).trans ((vm_at_ne (by decide)).trans e3)) (pr_z0 h.2.2.2.1 e3 rfl (by decide))) (by decide) ((vm_at_ne (by decide)).trans ((vm_at_ne (by decide)).trans ((vm_at_ne (by decide)).trans e4))) (pr_z0 h.2.2.2.2.1 e4 rfl (by decide))) (by decide) ((vm_at_ne (by decide)).trans ((vm_at_ne (by decide)).trans ((vm_at_ne (by decide)).trans ((vm_at_ne (by decide)).trans e5)))) (pr_z0 h.2.2.2.2.2.2.2.1 e5 rfl (by decide))) (by decide) ((vm_at_ne (by decide)).trans ((vm_at_ne (by decide)).trans ((vm_at_ne (by decide)).trans ((vm_at_ne (by decide)).trans ((vm_at_ne (by decide)).trans e6))))) (pr_z0 h.2.2.2.2.2.2.2.2.1 e6 rfl (by decide))) (by decide) ((vm_at_ne (by decide)).trans ((vm_at_ne (by decide)).trans ((vm_at_ne (by decide)).trans ((vm_at_ne (by decide)).trans ((vm_at_ne (by decide)).trans ((vm_at_ne (by decide)).trans e7)))))) (pr_z0 h.2.2.2.2.2.2.2.2.2.1 e7 rfl (by decide))) (by decide) ((vm_at_ne (by decide)).trans ((vm_at_ne (by decide)).trans ((vm_at_ne (by decide)).trans ((vm_at_ne (by decide)).trans ((vm_at_ne (by decide)).trans ((vm_at_ne (by decide)).trans ((vm_at_ne (by decide)).trans e8))))))) (pr_z0 h.2.2.2.2.2.2.2.2.2.2.1 e8 rfl (by decide)))
def pr_q (t a : Nat) : Option (Nat × Nat × Nat × List Value) := match t with
  | 1 => some (0, 1, 0, [.ref (a + 1), .ref (a + 2), .int 0])
  | 2 => some (2, 1, 60, [])
  | 3 => some (0, 2, 0, [.ref (a + 1), .int (-1), .int 0])
  | 4 => some (0, 0, 0, [.int 0, .ref 3, .ref 4, .ref 5])
  | 5 => some (1, 2, 8, [])
  | 6 => some (2, 1, 8, [])
  | 7 => some (1, 0, 8, [])
  | 8 => some (3, 3, 16, [])
  | 9 => some (1, 2, 16, [])
  | 10 => some (3, 4, 40, [])
  | 11 => some (0, 4, 0, [.ref 218, .int 0])
  | 12 => some (3, 4, 8, [])
  | 13 => some (0, 3, 0, [.ref 220, .ref 221, .ref 222, .ref 223, .int 0])
  | 14 => some (2, 1, 3660, [])
  | 15 => some (1, 0, 8, [])
  | 16 => some (0, 5, 0, [.ref 2, .ref 6, .ref 55, .int 0, .ref 56, .int 0, .ref 217, .ref 219, .ref 224, .ref 227, .ref 230, .ref 233, .ref 234, .ref 237, .int 0, .int 0, .int 0, .int 0])
  | _ => none
set_option maxRecDepth 100000 in
theorem pr_tq : (List.range 238).all (fun a => decide (ty a = 0) || decide (pr_D[a]? = pr_q (ty a) a)) = true := by decide +kernel
set_option maxRecDepth 100000 in
theorem pr_only : (List.range 238).all (fun a => (decide (ty a ≠ 7) || decide (a = 5)) && (decide (ty a ≠ 8) || decide (a = 6)) && (decide (ty a ≠ 9) || decide (a = 55)) && (decide (ty a ≠ 10) || decide (a = 56)) && (decide (ty a = 7) || decide (a ≠ 5))) = true := by decide +kernel
def pr_m (a : Nat) : Nat × Nat × Nat × List Value := match (mk_t a).1 with
  | 0 => (1, 0, (mk_t a).2, [])
  | 1 => (2, 1, (mk_t a).2, [])
  | _ => (1, 2, (mk_t a).2, [])
theorem pr_tm : (List.range 24).all (fun i => decide (pr_D[239 + i]? = some (pr_m (239 + i)))) = true := by decide +kernel
theorem pr_at2 {a : Nat} (ha : a < 238) : ty a = 0 ∨ pr_D[a]? = pr_q (ty a) a := by
  have h := List.all_eq_true.mp pr_tq a (List.mem_range.mpr ha)
  rw [Bool.or_eq_true] at h
  exact h.imp of_decide_eq_true of_decide_eq_true
theorem pr_at3 {a : Nat} (ha : a < 238) : (ty a ≠ 7 ∨ a = 5) ∧ (ty a ≠ 8 ∨ a = 6) ∧ (ty a ≠ 9 ∨ a = 55) ∧ (ty a ≠ 10 ∨ a = 56) ∧ (ty a = 7 ∨ a ≠ 5) := by
  have h := List.all_eq_true.mp pr_only a (List.mem_range.mpr ha)
  simp only [Bool.and_eq_true, Bool.or_eq_true, decide_eq_true_eq] at h
  exact ⟨h.1.1.1.1, h.1.1.1.2, h.1.1.2, h.1.2, h.2⟩
theorem pz_tc (h : pr_H vh) : ∃ θ : tc_S, (θ.1 = 0 ∧ θ.2.1 = 0) ∧ tc θ ((false, false), pz vh) (pz vh) := by
  refine ⟨(0, 0, fun _ => 0, 0, 0), ⟨rfl, rfl⟩, ⟨(by decide : (0 : Int) ≤ 0 ∧ (0 : Int) ≤ 8), (by decide : (0 : Int) ≤ 0 ∧ (0 : Int) ≤ 16), (by decide : (-2147483648 : Int) ≤ 0 ∧ (0 : Int) < 2147483648), (by decide : (0 : Int) ≤ 0 ∧ (0 : Int) ≤ 8)⟩, rfl, fun a => ⟨fun _ => rfl, ?_⟩⟩
  by_cases ha : a < 238
  · rcases pr_at2 ha with q | q
    · rw [q]; exact trivial
    · obtain ⟨o7, o8, o9, o10, o5⟩ := pr_at3 ha
      obtain ⟨⟨hO, hI, hJ, hQ⟩, -, -, -, -, hp6, hp56, -⟩ := id h
      by_cases e5 : a = 5
      · subst e5
        show tq _ 7 5 _
        exact ⟨fun _ => 0, fun _ => (by decide : (0 : Int) ≤ 0 ∧ (0 : Int) < 8), pz_5 h⟩
      by_cases e3 : a = 3
      · subst e3
        show tq _ 5 3 _
        exact ⟨fun _ => 0, pz_3 h⟩
      by_cases e55 : a = 55
      · subst e55
        show tq _ 9 55 _
        exact pz_55 h
      · rw [pz_o e5 (by omega) (by omega) (by omega) e3 e55 (by omega) (by omega)]
        generalize hg : ty a = t at q o7 o8 o9 o10 o5
        match t, q with
        | 0, q => exact trivial
        | 1, q => exact ⟨0, by decide, hO a 1 0 _ q⟩
        | 2, q => exact hJ a 1 60 _ q
        | 3, q => exact ⟨_, _, hO a 2 0 _ q⟩
        | 4, q => exact hO a 0 0 _ q
        | 5, q => exact hI a 2 8 _ q
        | 6, q => exact hJ a 1 8 _ q
        | 7, q => exact absurd (o7.resolve_left (fun z => z rfl)) e5
        | 8, q =>
          obtain ⟨f, hf⟩ := hQ a 3 16 _ q
          have e6 : a = 6 := o8.resolve_left (fun z => z rfl)
          exact ⟨f, fun j hj => pr_f0 hp6 (by rw [← e6]; exact hf) j hj, hf⟩
        | 9, q =>
          exact absurd (o9.resolve_left (fun z => z rfl)) e55
        | 10, q =>
          obtain ⟨f, hf⟩ := hQ a 4 40 _ q
          have e6 : a = 56 := o10.resolve_left (fun z => z rfl)
          exact ⟨f, fun j hj => pr_f0 hp56 (by rw [← e6]; exact hf) j hj, hf⟩
        | 11, q => exact ⟨0, (by decide : (0 : Int) ≤ 0 ∧ (0 : Int) ≤ 0), hO a 4 0 _ q⟩
        | 12, q =>
          obtain ⟨f, hf⟩ := hQ a 4 8 _ q
          exact ⟨f, fun j hj => by have hj : (j : Int) < 0 := hj; omega, hf⟩
        | 13, q => exact ⟨220, 221, 222, 223, 0, ⟨rfl, rfl, rfl, rfl⟩, by decide, hO a 3 0 _ q⟩
        | 14, q => exact hJ a 1 3660 _ q
        | 15, q => exact hI a 0 8 _ q
        | 16, q => exact ⟨0, 0, 0, 0, by decide, hO a 5 0 _ q⟩
        | n + 17, q => exact trivial
  · rw [ty_hi (by omega)]; exact trivial
def pz_ai (vh : vm_H) (a j : Nat) : Int := match vm_at vh a with
  | some (.inl (_, _, .inl f)) => (f j).toInt
  | _ => 0
def pz_al (vh : vm_H) (a j : Nat) : Int64 := match vm_at vh a with
  | some (.inl (_, _, .inr (.inl f))) => f j
  | _ => 0
def pz_az (vh : vm_H) (a j : Nat) : Int32 := match vm_at vh a with
  | some (.inl (_, _, .inl f)) => f j
  | _ => 0
theorem pz_i {n t w : Nat} (h : pr_H vh) (e : pr_D[n]? = some (1, t, w, [])) : ∃ f, vm_at (pz vh) n = some (.inl (t, w, .inl f)) := by
  by_cases g0 : n = 5
  · subst g0; cases e; exact ⟨_, pz_5 h⟩
  by_cases g1 : n = 240
  · subst g1; cases e; exact ⟨_, pz_240 h⟩
  by_cases g2 : n = 242
  · subst g2; cases e; exact ⟨_, pz_242 h⟩
  by_cases g3 : n = 259
  · subst g3; cases e; exact ⟨_, pz_259 h⟩
  by_cases g4 : n = 3
  · subst g4; cases e; exact ⟨_, pz_3 h⟩
  by_cases g5 : n = 55
  · subst g5; cases e; exact ⟨_, pz_55 h⟩
  by_cases g6 : n = 239
  · subst g6; cases e; exact ⟨_, pz_239 h⟩
  by_cases g7 : n = 241
  · subst g7; cases e; exact ⟨_, pz_241 h⟩
  rw [pz_o g0 g1 g2 g3 g4 g5 g6 g7]; exact pr_i h e
theorem pz_tm (h : pr_H vh) : tm (fun _ => 0) (pz_ai (pz vh)) (pz_al (pz vh)) (pz_az (pz vh)) (pz vh) (pz vh) := by
  refine ⟨rfl, fun _ _ => rfl, ⟨fun _ => (by decide : (-2147483648 : Int) ≤ 0 ∧ (0 : Int) < 2147483648), fun a j => ?_⟩, ?_, fun a ha => ?_⟩
  · unfold pz_ai
    split
    · exact ⟨Int32.le_toInt _, Int32.toInt_lt _⟩
    · decide
  · rw [pz_o (by decide) (by decide) (by decide) (by decide) (by decide) (by decide) (by decide) (by decide)]
    exact h.1.1 238 6 0 _ rfl
  · have q := of_decide_eq_true (List.all_eq_true.mp pr_tm (a - 239) (List.mem_range.mpr (by omega)))
    rw [show 239 + (a - 239) = a by omega] at q
    unfold pr_m at q
    unfold mk_c
    generalize hm : mk_t a = m at q
    obtain ⟨t, w⟩ := m
    match t, q with
    | 0, q =>
      obtain ⟨f, hf⟩ := pz_i h q
      have e : (fun j => vz (pz_ai (pz vh) a j)) = f := funext fun j => by
        unfold pz_ai
        rw [hf]
        exact Int32.ofInt_toInt _
      show vm_at (pz vh) a = some (.inl (0, w, .inl fun j => vz (pz_ai (pz vh) a j)))
      rw [e]; exact hf
    | 1, q =>
      have q : pr_D[a]? = some (2, 1, w, []) := q
      have hne : a ≠ 240 ∧ a ≠ 242 ∧ a ≠ 259 ∧ a ≠ 239 ∧ a ≠ 241 := ⟨fun e => (by subst e; cases hm), fun e => (by subst e; cases hm), fun e => (by subst e; cases hm), fun e => (by subst e; cases hm), fun e => (by subst e; cases hm)⟩
      obtain ⟨f, hf⟩ := h.1.2.2.1 a 1 w [] q
      rw [← pz_o (by omega) hne.1 hne.2.1 hne.2.2.1 (by omega) (by omega) hne.2.2.2.1 hne.2.2.2.2] at hf
      have e : pz_al (pz vh) a = f := funext fun j => by
        unfold pz_al
        rw [hf]
      show vm_at (pz vh) a = some (.inl (1, w, .inr (.inl (pz_al (pz vh) a))))
      rw [e]; exact hf
    | n + 2, q =>
      have q : pr_D[a]? = some (1, 2, w, []) := q
      obtain ⟨f, hf⟩ := pz_i h q
      have e : pz_az (pz vh) a = f := funext fun j => by
        unfold pz_az
        rw [hf]
      show vm_at (pz vh) a = some (.inl (2, w, .inl (pz_az (pz vh) a)))
      rw [e]; exact hf
theorem pz_cP (h : pr_H vh) {i : Nat} (hi : i < 16) : cP (pz vh) i 0 (pz_al (pz vh) (7 + 3 * i + 1)) (pz_al (pz vh) (7 + 3 * i + 2)) := by
  have t1 := ty_pi i hi
  have t2 := ty_p t1
  obtain ⟨⟨hO, hI, hJ, hQ⟩, -⟩ := id h
  have q0 := (pr_at2 (a := 7 + 3 * i) (by omega)).resolve_left (by rw [t1]; decide)
  have q1 := (pr_at2 (a := 7 + 3 * i + 1) (by omega)).resolve_left (by rw [t2.1]; decide)
  have q2 := (pr_at2 (a := 7 + 3 * i + 2) (by omega)).resolve_left (by rw [t2.2]; decide)
  rw [t1] at q0
  rw [t2.1] at q1
  rw [t2.2] at q2
  obtain ⟨f1, e1⟩ := hJ _ 1 60 _ q1
  obtain ⟨f2, e2⟩ := hJ _ 1 60 _ q2
  rw [← pz_o (by omega) (by omega) (by omega) (by omega) (by omega) (by omega) (by omega) (by omega)] at e1 e2
  have g1 : pz_al (pz vh) (7 + 3 * i + 1) = f1 := funext fun j => by unfold pz_al; rw [e1]
  have g2 : pz_al (pz vh) (7 + 3 * i + 2) = f2 := funext fun j => by unfold pz_al; rw [e2]
  rw [g1, g2]
  refine ⟨⟨by decide, fun t ht => by omega⟩, ?_, e1, e2⟩
  rw [pz_o (by omega) (by omega) (by omega) (by omega) (by omega) (by omega) (by omega) (by omega)]
  exact hO _ 1 0 _ q0
theorem pz_lI {L : Nat} {xs : Nat → Int32} (h : pr_H vh) (h0 : vm_at vh 0 = some (.inl (0, L, .inl xs))) : ∃ (n p t : Int) (g : Int64) (u : D5u) (w : D5w), lI L xs (pz vh) n p n p t g u w ∧ rel5 n p u w := by
  obtain ⟨θ, ⟨t1, t2⟩, hT⟩ := pz_tc h
  obtain ⟨fo, hO⟩ := h.1.2.2.1 263 1 1 [] rfl
  have e2 : ∀ s, pz_ai (pz vh) 242 s = 0 := fun s => by unfold pz_ai; rw [pz_242 h]; rfl
  have e0 : ∀ s, pz_ai (pz vh) 240 s = 0 := fun s => by unfold pz_ai; rw [pz_240 h]; rfl
  have e9 : ∀ s, pz_az (pz vh) 259 s = 0 := fun s => by unfold pz_az; rw [pz_259 h]
  refine ⟨0, 0, 0, fo 0, (fun _ => 0, fun _ => 0, fun i => pz_al (pz vh) (7 + 3 * i + 1), fun i => pz_al (pz vh) (7 + 3 * i + 2)), (fun _ => 0, fun _ => []), ⟨θ, fun _ => 0, pz_ai (pz vh), pz_al (pz vh), pz_az (pz vh), fo, ⟨⟨t1, t2⟩, ⟨rfl, rfl⟩, rfl, rfl⟩, hT, pz_tm h, ⟨fun s => by rw [e2]; decide, fun s => by rw [e0]; decide⟩, ⟨⟨⟨by decide, by decide⟩, fun s t _ ht => by rw [e2] at ht; omega⟩, rfl, e9⟩, ri2_0 (fun v h1 h2 => by have h2 : v < 0 := h2; omega) rfl rfl, ?_, ?_, ⟨pz_5 h, ⟨fun _ => (by decide : (0 : Int) ≤ 0 ∧ (0 : Int) < 8), fun v h1 h2 => by omega⟩, fun i hi => pz_cP h hi⟩, fun i _ => ⟨e2 i, rfl⟩⟩, fun i _ => ⟨rfl, fun t ht => ?_, fun a b _ hb => ?_, fun x hx => (by cases hx), List.Perm.refl _⟩, fun _ _ _ => rfl⟩
  · rw [pz_o (by decide) (by decide) (by decide) (by decide) (by decide) (by decide) (by decide) (by decide)]; exact h0
  · rw [pz_o (by decide) (by decide) (by decide) (by decide) (by decide) (by decide) (by decide) (by decide)]; exact hO
  · have ht : (t : Int) < 0 := ht
    omega
  · have hb : (b : Int) < 0 := hb
    omega
def pz_Z (a j : Nat) : Int := if ty a = 3 ∧ j = 0 then -1 else 0
def pz_mm (vh : vm_H) : Nat → Option Nat := match vm_at vh 218 with
  | some (.inl (_, _, .inr (.inr (.inr (.inr f))))) => f
  | _ => fun _ => none
theorem pz_Zn {a : Nat} (h : ty a ≠ 3) : pz_Z a = fun _ => 0 := funext fun j => if_neg (fun z => h z.1)
theorem pz_Z3 {a : Nat} (h : ty a = 3) : pz_Z a 0 = -1 ∧ pz_Z a 1 = 0 := ⟨if_pos ⟨h, rfl⟩, if_neg (fun z => by cases z.2)⟩
theorem pz_A {a w : Nat} (h : ∃ f, vm_at (pz vh) a = some (.inl (1, w, .inr (.inl f)))) : vm_at (pz vh) a = some (.inl (1, w, .inr (.inl (pz_al (pz vh) a)))) := by
  obtain ⟨f, hf⟩ := h
  have e : pz_al (pz vh) a = f := funext fun j => by
    unfold pz_al
    rw [hf]
  rw [e]; exact hf
theorem pz_I {a w : Nat} (h : ∃ f, vm_at (pz vh) a = some (.inl (0, w, .inl f))) : vm_at (pz vh) a = some (.inl (0, w, .inl (fun j => vz (pz_ai (pz vh) a j)))) := by
  obtain ⟨f, hf⟩ := h
  have e : (fun j => vz (pz_ai (pz vh) a j)) = f := funext fun j => by
    unfold pz_ai
    rw [hf]
    exact Int32.ofInt_toInt _
  rw [e]; exact hf
theorem pz_Y {a w : Nat} (h : ∃ f, vm_at (pz vh) a = some (.inl (2, w, .inl f))) : vm_at (pz vh) a = some (.inl (2, w, .inl (pz_az (pz vh) a))) := by
  obtain ⟨f, hf⟩ := h
  have e : pz_az (pz vh) a = f := funext fun j => by
    unfold pz_az
    rw [hf]
  rw [e]; exact hf
theorem pz_tk (h : pr_H vh) : tk pz_Z (pz_al (pz vh)) (pz_ai (pz vh)) (pz_az (pz vh)) (pz_mm (pz vh)) 0 (pz vh) (pz vh) := by
  refine ⟨rfl, fun _ _ => rfl, ⟨fun a j => ?_, fun a j => ?_, Or.inl rfl⟩, fun a => ?_⟩
  · unfold pz_Z
    split <;> decide
  · unfold pz_ai
    split
    · exact ⟨Int32.le_toInt _, Int32.toInt_lt _⟩
    · decide
  by_cases ha : a < 238
  · rcases pr_at2 ha with q | q
    · rw [q]; exact trivial
    · obtain ⟨o7, o8, o9, o10, o5⟩ := pr_at3 ha
      obtain ⟨⟨hO, hI, hJ, hQ⟩, -, -, -, -, hp6, hp56, -⟩ := id h
      by_cases e5 : a = 5
      · subst e5
        exact pz_I (a := 5) ⟨_, pz_5 h⟩
      by_cases e3 : a = 3
      · subst e3
        exact pz_Y (a := 3) ⟨_, pz_3 h⟩
      by_cases e55 : a = 55
      · subst e55
        exact pz_Y (a := 55) ⟨_, pz_55 h⟩
      have e0 := pz_o (vh := vh) e5 (by omega) (by omega) (by omega) e3 e55 (by omega : a ≠ 239) (by omega : a ≠ 241)
      have hz3 := fun g : ty a = 3 => pz_Z3 g
      have hzn := fun g : ty a ≠ 3 => pz_Zn g
      have u12 := fun g : ty a = 12 => ty_u12 g
      have u13 := fun g : ty a = 13 => ty_u13 a ha g
      generalize hg : ty a = t at q o7 o8 o9 o10 o5 hz3 hzn u12 u13
      match t, q with
      | 0, q => exact trivial
      | 1, q =>
        show vm_at (pz vh) a = some (.inr (1, [.ref (a + 1), .ref (a + 2), .int (vz (pz_Z a 0))]))
        rw [e0, hzn (by decide)]
        exact hO a 1 0 _ q
      | 2, q =>
        show vm_at (pz vh) a = some (.inl (1, 60, .inr (.inl (pz_al (pz vh) a))))
        exact pz_A (by rw [e0]; exact hJ a 1 60 _ q)
      | 3, q =>
        show vm_at (pz vh) a = some (.inr (2, [.ref (a + 1), .int (vz (pz_Z a 0)), .int (vz (pz_Z a 1))]))
        rw [e0, (hz3 rfl).1, (hz3 rfl).2]
        exact hO a 2 0 _ q
      | 4, q =>
        show vm_at (pz vh) a = some (.inr (0, [.int (vz (pz_Z a 0)), .ref 3, .ref 4, .ref 5]))
        rw [e0, hzn (by decide)]
        exact hO a 0 0 _ q
      | 5, q =>
        show vm_at (pz vh) a = some (.inl (2, 8, .inl (pz_az (pz vh) a)))
        exact pz_Y (by rw [e0]; exact hI a 2 8 _ q)
      | 6, q =>
        show vm_at (pz vh) a = some (.inl (1, 8, .inr (.inl (pz_al (pz vh) a))))
        exact pz_A (by rw [e0]; exact hJ a 1 8 _ q)
      | 7, q => exact absurd (o7.resolve_left (fun z => z rfl)) e5
      | 8, q =>
        obtain ⟨f, hf⟩ := hQ a 3 16 _ q
        have e6 : a = 6 := o8.resolve_left (fun z => z rfl)
        exact ⟨f, fun j hj => by rw [Nat.mul_comm 3 j, Nat.mul_comm j 3]; exact pr_f0 hp6 (by rw [← e6]; exact hf) j hj, e0.trans hf⟩
      | 9, q => exact absurd (o9.resolve_left (fun z => z rfl)) e55
      | 10, q =>
        obtain ⟨f, hf⟩ := hQ a 4 40 _ q
        have e6 : a = 56 := o10.resolve_left (fun z => z rfl)
        exact ⟨f, fun j hj => pr_f0 hp56 (by rw [← e6]; exact hf) j hj, e0.trans hf⟩
      | 11, q =>
        show vm_at (pz vh) a = some (.inr (4, [.ref 218, .int (vz (pz_Z a 0))]))
        rw [e0, hzn (by decide)]
        exact hO a 4 0 _ q
      | 12, q =>
        obtain ⟨f, hf⟩ := hQ a 4 8 _ q
        have e6 : a = 218 := u12 rfl
        show vm_at (pz vh) a = some (.inl (4, 8, .inr (.inr (.inr (.inr (pz_mm (pz vh)))))))
        have e7 : vm_at (pz vh) a = some (.inl (4, 8, .inr (.inr (.inr (.inr f))))) := e0.trans hf
        have e : pz_mm (pz vh) = f := by
          unfold pz_mm
          rw [← e6, e7]
        rw [e]; exact e7
      | 13, q =>
        show vm_at (pz vh) a = some (.inr (3, [.ref (220 + 0), .ref (221 + 0), .ref (222 - 0), .ref (223 - 0), .int (vz (pz_Z a 0))]))
        rw [e0, hzn (by decide)]
        exact hO a 3 0 _ q
      | 14, q =>
        show vm_at (pz vh) a = some (.inl (1, 3660, .inr (.inl (pz_al (pz vh) a))))
        exact pz_A (by rw [e0]; exact hJ a 1 3660 _ q)
      | 15, q =>
        show vm_at (pz vh) a = some (.inl (0, 8, .inl (fun j => vz (pz_ai (pz vh) a j))))
        exact pz_I (by rw [e0]; exact hI a 0 8 _ q)
      | 16, q =>
        show vm_at (pz vh) a = some (.inr (5, [.ref 2, .ref 6, .ref 55, .int (vz (pz_Z a 0)), .ref 56, .int (vz (pz_Z a 1)), .ref 217, .ref 219, .ref 224, .ref 227, .ref 230, .ref 233, .ref 234, .ref 237, .int (vz (pz_Z a 2)), .int (vz (pz_Z a 3)), .int (vz (pz_Z a 4)), .int (vz (pz_Z a 5))]))
        rw [e0, hzn (by decide)]
        exact hO a 5 0 _ q
      | n + 17, q => exact trivial
  · rw [ty_hi (by omega)]; exact trivial
def T0 : T7 := ((0, 0, 0, 0), ([], [], fun _ => 0), none)
theorem pr_y0 {a t w n : Nat} {f : Nat → Int64} (h : pr_y vh n a = true) (hc : vm_at vh n = some (.inl (t, w, .inr (.inl f)))) : ∀ j, j < a → f j = 0 := by
  intro j hj
  unfold pr_y at h
  rw [hc] at h
  exact of_decide_eq_true (List.all_eq_true.mp h j (List.mem_range.mpr hj))
theorem pz_y {a n w : Nat} (h : pr_y vh n a = true) (hc : ∃ f, vm_at vh n = some (.inl (1, w, .inr (.inl f)))) (e0 : vm_at (pz vh) n = vm_at vh n) : ∀ j, j < a → pz_al (pz vh) n j = 0 := fun j hj => by
  obtain ⟨f, hf⟩ := hc
  unfold pz_al
  rw [e0, hf]
  exact pr_y0 h hf j hj
theorem pz_j (h : pr_H vh) : jC (pz vh) (fun _ => 0) (fun _ => 0) (fun _ => 0) T0 ∧ jR (pz vh) (fun _ => 0) (fun _ => 0) (fun _ => 0) T0 := by
  have z1 : pz_Z 1 = fun _ => 0 := pz_Zn (by decide)
  have z2 : pz_Z 224 = fun _ => 0 := pz_Zn (by decide)
  have z3 : pz_Z 227 = fun _ => 0 := pz_Zn (by decide)
  have z4 : pz_Z 217 = fun _ => 0 := pz_Zn (by decide)
  refine ⟨⟨_, _, _, _, _, _, pz_tk h, fun a ha => by rw [pz_Zn (by rw [ha]; decide)]; decide, ⟨?_, ?_, ?_⟩, fp_0 (by rw [pz_Zn (by decide)]), fun _ _ _ => rfl, ⟨⟨by rw [z1]; rfl, by rw [z1]; rfl, by rw [z1]; rfl, by rw [z1]; rfl⟩, c7K_0 (by rw [z2]), c7K_0 (by rw [z3]), pz_y h.2.2.2.2.2.2.2.2.2.2.2.1 (h.1.2.2.1 4 1 8 [] rfl) (pz_o (by decide) (by decide) (by decide) (by decide) (by decide) (by decide) (by decide) (by decide))⟩, ?_⟩, ⟨_, _, _, _, pz_tm h, ⟨?_, ?_, ?_⟩, fun i _ => ?_, ⟨⟨rfl, rfl, rfl, rfl⟩, Or.inl ⟨rfl, rfl⟩, Or.inl ⟨rfl, rfl⟩, pz_y h.2.2.2.2.2.2.2.2.2.2.2.2 (h.1.2.2.1 245 1 8 [] rfl) (pz_o (by decide) (by decide) (by decide) (by decide) (by decide) (by decide) (by decide) (by decide))⟩, ⟨rfl, rfl⟩⟩⟩
  · funext j
    unfold pz_ai
    rw [pz_5 h]
    rfl
  · funext j
    unfold pz_az
    rw [pz_3 h]
  · funext j
    unfold pz_az
    rw [pz_55 h]
  · show pz_Z 217 0 = 0
    rw [z4]
  · funext j
    unfold pz_ai
    rw [pz_240 h]
    rfl
  · funext j
    unfold pz_az
    rw [pz_239 h]
  · funext j
    unfold pz_az
    rw [pz_241 h]
  · have e2 : pz_ai (pz vh) 242 i = 0 := by unfold pz_ai; rw [pz_242 h]; rfl
    rw [e2]
    exact sW_nil
theorem pz_J {L : Nat} {xs : Nat → Int32} (h : pr_H vh) (h0 : vm_at vh 0 = some (.inl (0, L, .inl xs))) : ∃ (n p t : Int) (g : Int64) (u : D5u) (w : D5w) (V : Nat → Int) (F H : Nat → Int32) (T : T7), lI L xs (pz vh) n p n p t g u w ∧ rel5 n p u w ∧ jC (pz vh) V F H T ∧ jR (pz vh) V F H T := by
  obtain ⟨n, p, t, g, u, w, h1, h2⟩ := pz_lI h h0
  exact ⟨n, p, t, g, u, w, _, _, _, _, h1, h2, (pz_j h).1, (pz_j h).2⟩
end PZ
