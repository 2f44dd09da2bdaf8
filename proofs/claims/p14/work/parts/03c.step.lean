section VMX
variable {p : Program} {l : Launch} {e : Env} {R : Room} {s : State} {m : MethodId} {args : Array Value} {below : List Frame} {meth : Method} {c : Code} {cells slots : Nat} {Q : State → Prop}
variable {D : va_G} {ct : Nat → ClassId} {bs b L : Nat} {xs : Nat → Int32}
set_option maxHeartbeats 4000000 in
theorem vm_step {k pc x y z nc ns : Nat} {i : Jvm.ClassFile.Instr} {ls : vm_L} {st : List Value} {vh vh' : vm_H} {fr' : vm_F} (C : vm_C p s m args meth c D ct k) (he : vm_ent k pc = some (i, x, y, z)) (hx : vm_x (vm_max k) i x y pc ls st vh = some (fr', vh', nc, ns)) (hc : cells + nc ≤ R.cells) (hs : slots + ns ≤ R.slots)
    (kk : vm_On p l e R s m args below meth c Q D ct bs b L xs (vm_max k) fr' vh' (cells + nc) (slots + ns)) : vm_On p l e R s m args below meth c Q D ct bs b L xs (vm_max k) (pc, ls, st) vh cells slots := by
  intro H locs la hR hS hl
  have hl : lv_has la (vm_max k) (vm_lm bs b ls) := hl
  show W p l e R s m args below meth c H locs cells slots Q (F0 m pc la (st.map (vm_rv bs b)))
  obtain ⟨hX, hb, hml, hr, hlk, hnm, hown, hts, hK⟩ := id C
  have hd := vm_dec he
  cases i with
  | iconst n =>
    simp only [vm_x] at hx
    simp only [vm_nx, Option.some.injEq, Prod.mk.injEq] at hx; obtain ⟨rfl, rfl, rfl, rfl⟩ := hx
    exact lv_iconst hX hb hd rfl (kk H locs la hR hS hl)
  | bipush n =>
    simp only [vm_x] at hx
    simp only [vm_nx, Option.some.injEq, Prod.mk.injEq] at hx; obtain ⟨rfl, rfl, rfl, rfl⟩ := hx
    exact lv_bipush hX hb hd rfl (kk H locs la hR hS hl)
  | sipush n =>
    simp only [vm_x] at hx
    simp only [vm_nx, Option.some.injEq, Prod.mk.injEq] at hx; obtain ⟨rfl, rfl, rfl, rfl⟩ := hx
    exact lv_sipush hX hb hd rfl (kk H locs la hR hS hl)
  | lconst n =>
    simp only [vm_x] at hx
    simp only [vm_nx, Option.some.injEq, Prod.mk.injEq] at hx; obtain ⟨rfl, rfl, rfl, rfl⟩ := hx
    exact lv_lconst hX hb hd rfl (kk H locs la hR hS hl)
  | aconst_null =>
    simp only [vm_x] at hx
    simp only [vm_nx, Option.some.injEq, Prod.mk.injEq] at hx; obtain ⟨rfl, rfl, rfl, rfl⟩ := hx
    exact lv_null hX hb hd (kk H locs la hR hS hl)
  | ldc2_w n =>
    simp only [vm_x] at hx
    simp only [vm_nx, Option.some.injEq, Prod.mk.injEq] at hx; obtain ⟨rfl, rfl, rfl, rfl⟩ := hx
    exact lv_ldc2 hX hb hown (hts _ (vm_cw he)) hd (kk H locs la hR hS hl)
  | iload j =>
    simp only [vm_x, vm_loadI] at hx
    split at hx
    next v hv =>
      simp only [vm_nx, Option.some.injEq, Prod.mk.injEq] at hx; obtain ⟨rfl, rfl, rfl, rfl⟩ := hx
      exact lv_iload hX hb hd (vm_lget hl hv) (kk H locs la hR hS hl)
    next => cases hx
  | iload_n j =>
    simp only [vm_x, vm_loadI] at hx
    split at hx
    next v hv =>
      simp only [vm_nx, Option.some.injEq, Prod.mk.injEq] at hx; obtain ⟨rfl, rfl, rfl, rfl⟩ := hx
      exact lv_iload_n hX hb hd rfl (vm_lget hl hv) (kk H locs la hR hS hl)
    next => cases hx
  | lload j =>
    simp only [vm_x, vm_loadL] at hx
    split at hx
    next v hv =>
      simp only [vm_nx, Option.some.injEq, Prod.mk.injEq] at hx; obtain ⟨rfl, rfl, rfl, rfl⟩ := hx
      exact lv_lload hX hb hd (vm_lget hl hv) (kk H locs la hR hS hl)
    next => cases hx
  | lload_n j =>
    simp only [vm_x, vm_loadL] at hx
    split at hx
    next v hv =>
      simp only [vm_nx, Option.some.injEq, Prod.mk.injEq] at hx; obtain ⟨rfl, rfl, rfl, rfl⟩ := hx
      exact lv_lload_n hX hb hd rfl (vm_lget hl hv) (kk H locs la hR hS hl)
    next => cases hx
  | aload j =>
    simp only [vm_x, vm_loadA] at hx
    split at hx
    next v hv =>
      simp only [vm_nx, Option.some.injEq, Prod.mk.injEq] at hx; obtain ⟨rfl, rfl, rfl, rfl⟩ := hx
      exact lv_aload hX hb hd (vm_lget hl hv) (kk H locs la hR hS hl)
    next hv =>
      simp only [vm_nx, Option.some.injEq, Prod.mk.injEq] at hx; obtain ⟨rfl, rfl, rfl, rfl⟩ := hx
      exact lv_aloadN hX hb hd (vm_lget hl hv) (kk H locs la hR hS hl)
    next => cases hx
  | aload_n j =>
    simp only [vm_x, vm_loadA] at hx
    split at hx
    next v hv =>
      simp only [vm_nx, Option.some.injEq, Prod.mk.injEq] at hx; obtain ⟨rfl, rfl, rfl, rfl⟩ := hx
      exact lv_aload_n hX hb hd rfl (vm_lget hl hv) (kk H locs la hR hS hl)
    next hv =>
      simp only [vm_nx, Option.some.injEq, Prod.mk.injEq] at hx; obtain ⟨rfl, rfl, rfl, rfl⟩ := hx
      exact lv_aload_nN hX hb hd rfl (vm_lget hl hv) (kk H locs la hR hS hl)
    next => cases hx
  | istore j =>
    simp only [vm_x, vm_storeI] at hx
    split at hx
    next v r =>
      split at hx
      next hi =>
        simp only [vm_nx, Option.some.injEq, Prod.mk.injEq] at hx; obtain ⟨rfl, rfl, rfl, rfl⟩ := hx
        exact lv_istore hX hb hd hl hi (vm_lm_s1 bs b j ls (.int v)) (fun la' hl' => kk H locs la' hR hS hl')
      next => cases hx
    next => cases hx
  | istore_n j =>
    simp only [vm_x, vm_storeI] at hx
    split at hx
    next v r =>
      split at hx
      next hi =>
        simp only [vm_nx, Option.some.injEq, Prod.mk.injEq] at hx; obtain ⟨rfl, rfl, rfl, rfl⟩ := hx
        exact lv_istore_n hX hb hd rfl hl hi (vm_lm_s1 bs b j ls (.int v)) (fun la' hl' => kk H locs la' hR hS hl')
      next => cases hx
    next => cases hx
  | lstore j =>
    simp only [vm_x, vm_storeL] at hx
    split at hx
    next v r =>
      split at hx
      next hi =>
        simp only [vm_nx, Option.some.injEq, Prod.mk.injEq] at hx; obtain ⟨rfl, rfl, rfl, rfl⟩ := hx
        exact lv_lstore hX hb hd hl hi (vm_lm_s2 bs b j ls (.long v)) (fun la' hl' => kk H locs la' hR hS hl')
      next => cases hx
    next => cases hx
  | lstore_n j =>
    simp only [vm_x, vm_storeL] at hx
    split at hx
    next v r =>
      split at hx
      next hi =>
        simp only [vm_nx, Option.some.injEq, Prod.mk.injEq] at hx; obtain ⟨rfl, rfl, rfl, rfl⟩ := hx
        exact lv_lstore_n hX hb hd rfl hl hi (vm_lm_s2 bs b j ls (.long v)) (fun la' hl' => kk H locs la' hR hS hl')
      next => cases hx
    next => cases hx
  | astore j =>
    simp only [vm_x, vm_storeA] at hx
    split at hx
    next v r =>
      split at hx
      next hi =>
        simp only [vm_nx, Option.some.injEq, Prod.mk.injEq] at hx; obtain ⟨rfl, rfl, rfl, rfl⟩ := hx
        exact lv_astore hX hb hd hl hi (vm_lm_s1 bs b j ls (.ref v)) (fun la' hl' => kk H locs la' hR hS hl')
      next => cases hx
    next r =>
      split at hx
      next hi =>
        simp only [vm_nx, Option.some.injEq, Prod.mk.injEq] at hx; obtain ⟨rfl, rfl, rfl, rfl⟩ := hx
        exact lv_astoreN hX hb hd hl hi (vm_lm_s1 bs b j ls .null) (fun la' hl' => kk H locs la' hR hS hl')
      next => cases hx
    next => cases hx
  | astore_n j =>
    simp only [vm_x, vm_storeA] at hx
    split at hx
    next v r =>
      split at hx
      next hi =>
        simp only [vm_nx, Option.some.injEq, Prod.mk.injEq] at hx; obtain ⟨rfl, rfl, rfl, rfl⟩ := hx
        exact lv_astore_n hX hb hd rfl hl hi (vm_lm_s1 bs b j ls (.ref v)) (fun la' hl' => kk H locs la' hR hS hl')
      next => cases hx
    next r =>
      split at hx
      next hi =>
        simp only [vm_nx, Option.some.injEq, Prod.mk.injEq] at hx; obtain ⟨rfl, rfl, rfl, rfl⟩ := hx
        exact lv_astore_nN hX hb hd rfl hl hi (vm_lm_s1 bs b j ls .null) (fun la' hl' => kk H locs la' hR hS hl')
      next => cases hx
    next => cases hx
  | iinc j n =>
    simp only [vm_x] at hx
    split at hx
    next v hv =>
      split at hx
      next hi =>
        simp only [vm_nx, Option.some.injEq, Prod.mk.injEq] at hx; obtain ⟨rfl, rfl, rfl, rfl⟩ := hx
        obtain ⟨k', hk'⟩ := vm_lmem (bs := bs) (b := b) hv
        exact lv_iinc hX hb hd hl (k := k') hk' rfl hi (vm_lm_s1 bs b j ls (.int (v + Int32.ofInt n))) (fun la' hl' => kk H locs la' hR hS hl')
      next => cases hx
    next => cases hx
  | iadd =>
    simp only [vm_x, vm_ii] at hx
    split at hx
    next v2 v1 r =>
      simp only [vm_nx, Option.some.injEq, Prod.mk.injEq] at hx; obtain ⟨rfl, rfl, rfl, rfl⟩ := hx
      exact lv_iadd hX hb hd (kk H locs la hR hS hl)
    next => cases hx
  | isub =>
    simp only [vm_x, vm_ii] at hx
    split at hx
    next v2 v1 r =>
      simp only [vm_nx, Option.some.injEq, Prod.mk.injEq] at hx; obtain ⟨rfl, rfl, rfl, rfl⟩ := hx
      exact lv_isub hX hb hd (kk H locs la hR hS hl)
    next => cases hx
  | imul =>
    simp only [vm_x, vm_ii] at hx
    split at hx
    next v2 v1 r =>
      simp only [vm_nx, Option.some.injEq, Prod.mk.injEq] at hx; obtain ⟨rfl, rfl, rfl, rfl⟩ := hx
      exact lv_imul hX hb hd (kk H locs la hR hS hl)
    next => cases hx
  | iand =>
    simp only [vm_x, vm_ii] at hx
    split at hx
    next v2 v1 r =>
      simp only [vm_nx, Option.some.injEq, Prod.mk.injEq] at hx; obtain ⟨rfl, rfl, rfl, rfl⟩ := hx
      exact lv_iand hX hb hd (kk H locs la hR hS hl)
    next => cases hx
  | ior =>
    simp only [vm_x, vm_ii] at hx
    split at hx
    next v2 v1 r =>
      simp only [vm_nx, Option.some.injEq, Prod.mk.injEq] at hx; obtain ⟨rfl, rfl, rfl, rfl⟩ := hx
      exact lv_ior hX hb hd (kk H locs la hR hS hl)
    next => cases hx
  | ishl =>
    simp only [vm_x, vm_ii] at hx
    split at hx
    next v2 v1 r =>
      simp only [vm_nx, Option.some.injEq, Prod.mk.injEq] at hx; obtain ⟨rfl, rfl, rfl, rfl⟩ := hx
      exact lv_ishl hX hb hd (kk H locs la hR hS hl)
    next => cases hx
  | iushr =>
    simp only [vm_x, vm_ii] at hx
    split at hx
    next v2 v1 r =>
      simp only [vm_nx, Option.some.injEq, Prod.mk.injEq] at hx; obtain ⟨rfl, rfl, rfl, rfl⟩ := hx
      exact lv_iushr hX hb hd rfl (kk H locs la hR hS hl)
    next => cases hx
  | ladd =>
    simp only [vm_x, vm_ll] at hx
    split at hx
    next v2 v1 r =>
      simp only [vm_nx, Option.some.injEq, Prod.mk.injEq] at hx; obtain ⟨rfl, rfl, rfl, rfl⟩ := hx
      exact lv_ladd hX hb hd (kk H locs la hR hS hl)
    next => cases hx
  | lsub =>
    simp only [vm_x, vm_ll] at hx
    split at hx
    next v2 v1 r =>
      simp only [vm_nx, Option.some.injEq, Prod.mk.injEq] at hx; obtain ⟨rfl, rfl, rfl, rfl⟩ := hx
      exact lv_lsub hX hb hd (kk H locs la hR hS hl)
    next => cases hx
  | lmul =>
    simp only [vm_x, vm_ll] at hx
    split at hx
    next v2 v1 r =>
      simp only [vm_nx, Option.some.injEq, Prod.mk.injEq] at hx; obtain ⟨rfl, rfl, rfl, rfl⟩ := hx
      exact lv_lmul hX hb hd (kk H locs la hR hS hl)
    next => cases hx
  | land =>
    simp only [vm_x, vm_ll] at hx
    split at hx
    next v2 v1 r =>
      simp only [vm_nx, Option.some.injEq, Prod.mk.injEq] at hx; obtain ⟨rfl, rfl, rfl, rfl⟩ := hx
      exact lv_land hX hb hd (kk H locs la hR hS hl)
    next => cases hx
  | lor =>
    simp only [vm_x, vm_ll] at hx
    split at hx
    next v2 v1 r =>
      simp only [vm_nx, Option.some.injEq, Prod.mk.injEq] at hx; obtain ⟨rfl, rfl, rfl, rfl⟩ := hx
      exact lv_lor hX hb hd (kk H locs la hR hS hl)
    next => cases hx
  | lxor =>
    simp only [vm_x, vm_ll] at hx
    split at hx
    next v2 v1 r =>
      simp only [vm_nx, Option.some.injEq, Prod.mk.injEq] at hx; obtain ⟨rfl, rfl, rfl, rfl⟩ := hx
      exact lv_lxor hX hb hd (kk H locs la hR hS hl)
    next => cases hx
  | lshl =>
    simp only [vm_x, vm_li] at hx
    split at hx
    next v2 v1 r =>
      simp only [vm_nx, Option.some.injEq, Prod.mk.injEq] at hx; obtain ⟨rfl, rfl, rfl, rfl⟩ := hx
      exact lv_lshl hX hb hd rfl (kk H locs la hR hS hl)
    next => cases hx
  | lushr =>
    simp only [vm_x, vm_li] at hx
    split at hx
    next v2 v1 r =>
      simp only [vm_nx, Option.some.injEq, Prod.mk.injEq] at hx; obtain ⟨rfl, rfl, rfl, rfl⟩ := hx
      exact lv_lushr hX hb hd rfl (kk H locs la hR hS hl)
    next => cases hx
  | irem =>
    simp only [vm_x] at hx
    split at hx
    next v2 v1 r =>
      split at hx
      next => cases hx
      next h0 =>
        simp only [vm_nx, Option.some.injEq, Prod.mk.injEq] at hx; obtain ⟨rfl, rfl, rfl, rfl⟩ := hx
        exact lv_irem hX hb hd h0 (kk H locs la hR hS hl)
    next => cases hx
  | ldiv =>
    simp only [vm_x] at hx
    split at hx
    next v2 v1 r =>
      split at hx
      next => cases hx
      next h0 =>
        simp only [vm_nx, Option.some.injEq, Prod.mk.injEq] at hx; obtain ⟨rfl, rfl, rfl, rfl⟩ := hx
        exact lv_ldiv hX hb hd h0 (kk H locs la hR hS hl)
    next => cases hx
  | lrem =>
    simp only [vm_x] at hx
    split at hx
    next v2 v1 r =>
      split at hx
      next => cases hx
      next h0 =>
        simp only [vm_nx, Option.some.injEq, Prod.mk.injEq] at hx; obtain ⟨rfl, rfl, rfl, rfl⟩ := hx
        exact lv_lrem hX hb hd h0 (kk H locs la hR hS hl)
    next => cases hx
  | lneg =>
    simp only [vm_x] at hx
    split at hx
    next v1 r =>
      simp only [vm_nx, Option.some.injEq, Prod.mk.injEq] at hx; obtain ⟨rfl, rfl, rfl, rfl⟩ := hx
      exact lv_lneg hX hb hd (kk H locs la hR hS hl)
    next => cases hx
  | lcmp =>
    simp only [vm_x] at hx
    split at hx
    next v2 v1 r =>
      simp only [vm_nx, Option.some.injEq, Prod.mk.injEq] at hx; obtain ⟨rfl, rfl, rfl, rfl⟩ := hx
      exact W.lcmp hX hb hd (kk H locs la hR hS hl)
    next => cases hx
  | i2l =>
    simp only [vm_x] at hx
    split at hx
    next v1 r =>
      simp only [vm_nx, Option.some.injEq, Prod.mk.injEq] at hx; obtain ⟨rfl, rfl, rfl, rfl⟩ := hx
      exact lv_i2l hX hb hd rfl (kk H locs la hR hS hl)
    next => cases hx
  | l2i =>
    simp only [vm_x] at hx
    split at hx
    next v1 r =>
      simp only [vm_nx, Option.some.injEq, Prod.mk.injEq] at hx; obtain ⟨rfl, rfl, rfl, rfl⟩ := hx
      exact lv_l2i hX hb hd rfl (kk H locs la hR hS hl)
    next => cases hx
  | dup =>
    simp only [vm_x] at hx
    split at hx
    next v1 r =>
      split at hx
      next h1 =>
        simp only [vm_nx, Option.some.injEq, Prod.mk.injEq] at hx; obtain ⟨rfl, rfl, rfl, rfl⟩ := hx
        exact lv_dup hX hb hd ((vm_cat bs b v1).trans h1) (kk H locs la hR hS hl)
      next => cases hx
    next => cases hx
  | pop =>
    simp only [vm_x] at hx
    split at hx
    next v1 r =>
      split at hx
      next h1 =>
        simp only [vm_nx, Option.some.injEq, Prod.mk.injEq] at hx; obtain ⟨rfl, rfl, rfl, rfl⟩ := hx
        exact lv_pop hX hb hd ((vm_cat bs b v1).trans h1) (kk H locs la hR hS hl)
      next => cases hx
    next => cases hx
  | pop2 =>
    simp only [vm_x] at hx
    split at hx
    next v1 r =>
      split at hx
      next h1 =>
        simp only [vm_nx, Option.some.injEq, Prod.mk.injEq] at hx; obtain ⟨rfl, rfl, rfl, rfl⟩ := hx
        exact lv_pop2_2 hX hb hd ((vm_cat bs b v1).trans h1) (kk H locs la hR hS hl)
      next => cases hx
    next => cases hx
  | dup2 =>
    simp only [vm_x] at hx
    split at hx
    next v1 v2 r =>
      split at hx
      next h1 =>
        simp only [vm_nx, Option.some.injEq, Prod.mk.injEq] at hx; obtain ⟨rfl, rfl, rfl, rfl⟩ := hx
        exact lv_dup2_11 hX hb hd ((vm_cat bs b v1).trans h1.1) ((vm_cat bs b v2).trans h1.2) (kk H locs la hR hS hl)
      next => cases hx
    next => cases hx
  | goto o =>
    simp only [vm_x] at hx
    simp only [vm_nx, Option.some.injEq, Prod.mk.injEq] at hx; obtain ⟨rfl, rfl, rfl, rfl⟩ := hx
    exact lv_goto hX hb hd (vm_tg0 he rfl) (kk H locs la hR hS hl)
  | ifCond cd o =>
    simp only [vm_x] at hx
    split at hx
    next v1 r =>
      cases cd with
      | eq =>
        refine lv_if_eq hX hb hd (vm_tg0 he rfl) (fun h => ?_) (fun h => ?_)
        · simp only [vm_cond, vm_br, h, decide_true, decide_false, not_true_eq_false, not_false_eq_true] at hx
          simp only [vm_nx, Option.some.injEq, Prod.mk.injEq] at hx; obtain ⟨rfl, rfl, rfl, rfl⟩ := hx
          exact (kk H locs la hR hS hl)
        · simp only [vm_cond, vm_br, h, decide_true, decide_false, not_true_eq_false, not_false_eq_true] at hx
          simp only [vm_nx, Option.some.injEq, Prod.mk.injEq] at hx; obtain ⟨rfl, rfl, rfl, rfl⟩ := hx
          exact (kk H locs la hR hS hl)
      | ne =>
        refine lv_if_ne hX hb hd (vm_tg0 he rfl) (fun h => ?_) (fun h => ?_)
        · simp only [vm_cond, vm_br, h, decide_true, decide_false, not_true_eq_false, not_false_eq_true] at hx
          simp only [vm_nx, Option.some.injEq, Prod.mk.injEq] at hx; obtain ⟨rfl, rfl, rfl, rfl⟩ := hx
          exact (kk H locs la hR hS hl)
        · simp only [vm_cond, vm_br, h, decide_true, decide_false, not_true_eq_false, not_false_eq_true] at hx
          simp only [vm_nx, Option.some.injEq, Prod.mk.injEq] at hx; obtain ⟨rfl, rfl, rfl, rfl⟩ := hx
          exact (kk H locs la hR hS hl)
      | lt =>
        refine lv_if_lt hX hb hd (vm_tg0 he rfl) (fun h => ?_) (fun h => ?_)
        · simp only [vm_cond, vm_br, h, decide_true, decide_false, not_true_eq_false, not_false_eq_true] at hx
          simp only [vm_nx, Option.some.injEq, Prod.mk.injEq] at hx; obtain ⟨rfl, rfl, rfl, rfl⟩ := hx
          exact (kk H locs la hR hS hl)
        · simp only [vm_cond, vm_br, h, decide_true, decide_false, not_true_eq_false, not_false_eq_true] at hx
          simp only [vm_nx, Option.some.injEq, Prod.mk.injEq] at hx; obtain ⟨rfl, rfl, rfl, rfl⟩ := hx
          exact (kk H locs la hR hS hl)
      | ge =>
        refine lv_if_ge hX hb hd (vm_tg0 he rfl) (fun h => ?_) (fun h => ?_)
        · simp only [vm_cond, vm_br, h, decide_true, decide_false, not_true_eq_false, not_false_eq_true] at hx
          simp only [vm_nx, Option.some.injEq, Prod.mk.injEq] at hx; obtain ⟨rfl, rfl, rfl, rfl⟩ := hx
          exact (kk H locs la hR hS hl)
        · simp only [vm_cond, vm_br, h, decide_true, decide_false, not_true_eq_false, not_false_eq_true] at hx
          simp only [vm_nx, Option.some.injEq, Prod.mk.injEq] at hx; obtain ⟨rfl, rfl, rfl, rfl⟩ := hx
          exact (kk H locs la hR hS hl)
      | gt =>
        refine lv_if_gt hX hb hd (vm_tg0 he rfl) (fun h => ?_) (fun h => ?_)
        · simp only [vm_cond, vm_br, h, decide_true, decide_false, not_true_eq_false, not_false_eq_true] at hx
          simp only [vm_nx, Option.some.injEq, Prod.mk.injEq] at hx; obtain ⟨rfl, rfl, rfl, rfl⟩ := hx
          exact (kk H locs la hR hS hl)
        · simp only [vm_cond, vm_br, h, decide_true, decide_false, not_true_eq_false, not_false_eq_true] at hx
          simp only [vm_nx, Option.some.injEq, Prod.mk.injEq] at hx; obtain ⟨rfl, rfl, rfl, rfl⟩ := hx
          exact (kk H locs la hR hS hl)
      | le =>
        refine lv_if_le hX hb hd (vm_tg0 he rfl) (fun h => ?_) (fun h => ?_)
        · simp only [vm_cond, vm_br, h, decide_true, decide_false, not_true_eq_false, not_false_eq_true] at hx
          simp only [vm_nx, Option.some.injEq, Prod.mk.injEq] at hx; obtain ⟨rfl, rfl, rfl, rfl⟩ := hx
          exact (kk H locs la hR hS hl)
        · simp only [vm_cond, vm_br, h, decide_true, decide_false, not_true_eq_false, not_false_eq_true] at hx
          simp only [vm_nx, Option.some.injEq, Prod.mk.injEq] at hx; obtain ⟨rfl, rfl, rfl, rfl⟩ := hx
          exact (kk H locs la hR hS hl)
    next => cases hx
  | if_icmp cd o =>
    simp only [vm_x] at hx
    split at hx
    next v2 v1 r =>
      cases cd with
      | eq =>
        refine lv_icmp_eq hX hb hd (vm_tg0 he rfl) (fun h => ?_) (fun h => ?_)
        · simp only [vm_cond, vm_br, h, decide_true, decide_false, not_true_eq_false, not_false_eq_true] at hx
          simp only [vm_nx, Option.some.injEq, Prod.mk.injEq] at hx; obtain ⟨rfl, rfl, rfl, rfl⟩ := hx
          exact (kk H locs la hR hS hl)
        · simp only [vm_cond, vm_br, h, decide_true, decide_false, not_true_eq_false, not_false_eq_true] at hx
          simp only [vm_nx, Option.some.injEq, Prod.mk.injEq] at hx; obtain ⟨rfl, rfl, rfl, rfl⟩ := hx
          exact (kk H locs la hR hS hl)
      | ne =>
        refine lv_icmp_ne hX hb hd (vm_tg0 he rfl) (fun h => ?_) (fun h => ?_)
        · simp only [vm_cond, vm_br, h, decide_true, decide_false, not_true_eq_false, not_false_eq_true] at hx
          simp only [vm_nx, Option.some.injEq, Prod.mk.injEq] at hx; obtain ⟨rfl, rfl, rfl, rfl⟩ := hx
          exact (kk H locs la hR hS hl)
        · simp only [vm_cond, vm_br, h, decide_true, decide_false, not_true_eq_false, not_false_eq_true] at hx
          simp only [vm_nx, Option.some.injEq, Prod.mk.injEq] at hx; obtain ⟨rfl, rfl, rfl, rfl⟩ := hx
          exact (kk H locs la hR hS hl)
      | lt =>
        refine lv_icmp_lt hX hb hd (vm_tg0 he rfl) (fun h => ?_) (fun h => ?_)
        · simp only [vm_cond, vm_br, h, decide_true, decide_false, not_true_eq_false, not_false_eq_true] at hx
          simp only [vm_nx, Option.some.injEq, Prod.mk.injEq] at hx; obtain ⟨rfl, rfl, rfl, rfl⟩ := hx
          exact (kk H locs la hR hS hl)
        · simp only [vm_cond, vm_br, h, decide_true, decide_false, not_true_eq_false, not_false_eq_true] at hx
          simp only [vm_nx, Option.some.injEq, Prod.mk.injEq] at hx; obtain ⟨rfl, rfl, rfl, rfl⟩ := hx
          exact (kk H locs la hR hS hl)
      | ge =>
        refine lv_icmp_ge hX hb hd (vm_tg0 he rfl) (fun h => ?_) (fun h => ?_)
        · simp only [vm_cond, vm_br, h, decide_true, decide_false, not_true_eq_false, not_false_eq_true] at hx
          simp only [vm_nx, Option.some.injEq, Prod.mk.injEq] at hx; obtain ⟨rfl, rfl, rfl, rfl⟩ := hx
          exact (kk H locs la hR hS hl)
        · simp only [vm_cond, vm_br, h, decide_true, decide_false, not_true_eq_false, not_false_eq_true] at hx
          simp only [vm_nx, Option.some.injEq, Prod.mk.injEq] at hx; obtain ⟨rfl, rfl, rfl, rfl⟩ := hx
          exact (kk H locs la hR hS hl)
      | gt =>
        refine lv_icmp_gt hX hb hd (vm_tg0 he rfl) (fun h => ?_) (fun h => ?_)
        · simp only [vm_cond, vm_br, h, decide_true, decide_false, not_true_eq_false, not_false_eq_true] at hx
          simp only [vm_nx, Option.some.injEq, Prod.mk.injEq] at hx; obtain ⟨rfl, rfl, rfl, rfl⟩ := hx
          exact (kk H locs la hR hS hl)
        · simp only [vm_cond, vm_br, h, decide_true, decide_false, not_true_eq_false, not_false_eq_true] at hx
          simp only [vm_nx, Option.some.injEq, Prod.mk.injEq] at hx; obtain ⟨rfl, rfl, rfl, rfl⟩ := hx
          exact (kk H locs la hR hS hl)
      | le =>
        refine lv_icmp_le hX hb hd (vm_tg0 he rfl) (fun h => ?_) (fun h => ?_)
        · simp only [vm_cond, vm_br, h, decide_true, decide_false, not_true_eq_false, not_false_eq_true] at hx
          simp only [vm_nx, Option.some.injEq, Prod.mk.injEq] at hx; obtain ⟨rfl, rfl, rfl, rfl⟩ := hx
          exact (kk H locs la hR hS hl)
        · simp only [vm_cond, vm_br, h, decide_true, decide_false, not_true_eq_false, not_false_eq_true] at hx
          simp only [vm_nx, Option.some.injEq, Prod.mk.injEq] at hx; obtain ⟨rfl, rfl, rfl, rfl⟩ := hx
          exact (kk H locs la hR hS hl)
    next => cases hx
  | ifnull o =>
    simp only [vm_x] at hx
    split at hx
    next r =>
      simp only [vm_nx, Option.some.injEq, Prod.mk.injEq] at hx; obtain ⟨rfl, rfl, rfl, rfl⟩ := hx
      exact lv_ifnullN hX hb hd (vm_tg0 he rfl) (kk H locs la hR hS hl)
    next v1 r =>
      simp only [vm_nx, Option.some.injEq, Prod.mk.injEq] at hx; obtain ⟨rfl, rfl, rfl, rfl⟩ := hx
      exact lv_ifnull hX hb hd (kk H locs la hR hS hl)
    next => cases hx
  | ifnonnull o =>
    simp only [vm_x] at hx
    split at hx
    next r =>
      simp only [vm_nx, Option.some.injEq, Prod.mk.injEq] at hx; obtain ⟨rfl, rfl, rfl, rfl⟩ := hx
      exact lv_ifnonnullN hX hb hd (kk H locs la hR hS hl)
    next v1 r =>
      simp only [vm_nx, Option.some.injEq, Prod.mk.injEq] at hx; obtain ⟨rfl, rfl, rfl, rfl⟩ := hx
      exact lv_ifnonnull hX hb hd (vm_tg0 he rfl) (kk H locs la hR hS hl)
    next => cases hx
  | if_acmp cd o =>
    cases cd with
    | eq => cases hx
    | ne =>
      simp only [vm_x] at hx
      split at hx
      next v2 v1 r =>
        refine lv_acmp_ne (rx := some (vm_ra bs b v1)) (ry := some (vm_ra bs b v2)) hX hb hd (vm_tg0 he rfl) (fun h => ?_) (fun h => ?_)
        · have h2 : ¬ v1 = v2 := fun q => h (by rw [q])
          simp only [vm_br, h2, decide_false, Bool.not_false] at hx
          simp only [vm_nx, Option.some.injEq, Prod.mk.injEq] at hx; obtain ⟨rfl, rfl, rfl, rfl⟩ := hx
          exact (kk H locs la hR hS hl)
        · have h2 : v1 = v2 := vm_ra_inj hR.2.2.1 (Option.some.inj h)
          simp only [vm_br, h2, decide_true, Bool.not_true] at hx
          simp only [vm_nx, Option.some.injEq, Prod.mk.injEq] at hx; obtain ⟨rfl, rfl, rfl, rfl⟩ := hx
          exact (kk H locs la hR hS hl)
      next => cases hx
  | tableswitch d lo hi offs =>
    simp only [vm_x] at hx
    split at hx
    next v1 r =>
      split at hx
      next ho =>
        split at hx
        next h0 =>
          simp only [vm_nx, Option.some.injEq, Prod.mk.injEq] at hx; obtain ⟨rfl, rfl, rfl, rfl⟩ := hx
          exact lv_tableOut hX hb hd ho (Int.toNat_of_nonneg h0).symm (kk H locs la hR hS hl)
        next => cases hx
      next ho =>
        have h1 : ¬ v1.toInt < lo := fun q => ho (Or.inl q)
        have h2 : ¬ hi < v1.toInt := fun q => ho (Or.inr q)
        split at hx
        next o hoo =>
          split at hx
          next h0 =>
            simp only [vm_nx, Option.some.injEq, Prod.mk.injEq] at hx; obtain ⟨rfl, rfl, rfl, rfl⟩ := hx
            exact lv_tableIn hX hb hd h1 h2 hoo (Int.toNat_of_nonneg h0).symm (kk H locs la hR hS hl)
          next => cases hx
        next => cases hx
    next => cases hx
  | getfield o =>
    simp only [vm_x] at hx
    exact vm_getrow C he hd hx hR hS hl kk
  | putfield o =>
    simp only [vm_x] at hx
    exact vm_putrow C he hd hx hR hS hl kk
  | iaload =>
    simp only [vm_x] at hx
    exact vm_aldrow C hd hx hR hS hl kk
  | baload =>
    simp only [vm_x] at hx
    exact vm_zldrow C hd hx hR hS hl kk
  | laload =>
    simp only [vm_x] at hx
    exact vm_lldrow C hd hx hR hS hl kk
  | aaload =>
    simp only [vm_x] at hx
    exact vm_qldrow C hd hx hR hS hl kk
  | iastore =>
    simp only [vm_x] at hx
    exact vm_astrow C hd hx hR hS hl kk
  | bastore =>
    simp only [vm_x] at hx
    exact vm_zstrow C hd hx hR hS hl kk
  | lastore =>
    simp only [vm_x] at hx
    exact vm_lstrow C hd hx hR hS hl kk
  | aastore =>
    simp only [vm_x] at hx
    exact vm_qstrow C hd hx hR hS hl kk
  | arraylength =>
    simp only [vm_x] at hx
    exact vm_lenrow C hd hx hR hS hl kk
  | new o =>
    simp only [vm_x] at hx
    exact vm_newrow C he hd hx hc hs hR hS hl kk
  | newarray ty =>
    simp only [vm_x] at hx
    exact vm_newarow C hd hx hc hs hR hS hl kk
  | anewarray o =>
    simp only [vm_x] at hx
    exact vm_newqrow C he hd hx hc hs hR hS hl kk
  | _ =>
    exact absurd hx (by simp [vm_x])
end VMX
