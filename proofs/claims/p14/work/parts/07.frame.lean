/-! A cell of which nothing is said stays as it is, whatever it is. -/
def vm_le (f h : vm_H) : Prop := f.length = h.length ∧ ∀ n c, vm_at f n = some c → vm_at h n = some c
def vm_kp (f h f1 h1 : vm_H) : Prop := vm_le f1 h1 ∧ f.length ≤ f1.length ∧ ∀ n, n < f.length → vm_at f n = none → vm_at f1 n = none ∧ h1[n]? = h[n]?
theorem vm_kp.id {f h : vm_H} (hle : vm_le f h) : vm_kp f h f h := ⟨hle, Nat.le_refl _, fun _ _ hn => ⟨hn, rfl⟩⟩
theorem vm_at_ne {vh : vm_H} {n m : Nat} {c : Option va_E} (h : n ≠ m) : vm_at (vh.set n c) m = vm_at vh m := by
  unfold vm_at
  rw [List.getElem?_set_ne h]
theorem vm_at_eq {vh : vm_H} {n : Nat} {c0 c : va_E} (h : vm_at vh n = some c0) : vm_at (vh.set n (some c)) n = some c := by
  unfold vm_at
  rw [List.getElem?_set_self (vm_at_lt h)]
theorem vm_at_app {vh : vm_H} {n : Nat} {c : va_E} {t : vm_H} (h : vm_at vh n = some c) : vm_at (vh ++ t) n = some c := by
  unfold vm_at
  rw [List.getElem?_append_left (vm_at_lt h), vm_at_some h]
theorem vm_kp.set {f h : vm_H} {n : Nat} {c0 c : va_E} (hle : vm_le f h) (hf : vm_at f n = some c0) : vm_kp f h (f.set n (some c)) (h.set n (some c)) := by
  have hh := hle.2 n c0 hf
  refine ⟨⟨by rw [List.length_set, List.length_set]; exact hle.1, fun m d hm => ?_⟩, by rw [List.length_set]; exact Nat.le_refl _, fun m hm hn => ?_⟩
  · by_cases e : n = m
    · subst e
      rw [vm_at_eq hf] at hm
      rw [vm_at_eq hh]
      exact hm
    · rw [vm_at_ne e] at hm ⊢
      exact hle.2 m d hm
  · have e : n ≠ m := by intro e; subst e; rw [hf] at hn; cases hn
    rw [vm_at_ne e, List.getElem?_set_ne e]
    exact ⟨hn, rfl⟩
theorem vm_kp.push {f h : vm_H} {c : va_E} (hle : vm_le f h) : vm_kp f h (f ++ [some c]) (h ++ [some c]) := by
  refine ⟨⟨by rw [List.length_append, List.length_append, hle.1], fun m d hm => ?_⟩, by rw [List.length_append]; omega, fun m hm hn => ?_⟩
  · by_cases e : m < f.length
    · unfold vm_at at hm
      rw [List.getElem?_append_left e] at hm
      exact vm_at_app (hle.2 m d hm)
    · have e2 : m = f.length := by
        have h9 := vm_at_lt hm
        rw [List.length_append, List.length_singleton] at h9
        omega
      subst e2
      unfold vm_at at hm ⊢
      rw [List.getElem?_append_right (Nat.le_refl _), Nat.sub_self] at hm
      rw [hle.1, List.getElem?_append_right (Nat.le_refl _), Nat.sub_self]
      exact hm
  · rw [List.getElem?_append_left (by rw [← hle.1]; exact hm)]
    refine ⟨?_, rfl⟩
    unfold vm_at at hn ⊢
    rw [List.getElem?_append_left hm]
    exact hn
set_option maxHeartbeats 4000000 in
theorem vm_xfr {mx x y pc a c : Nat} {i : Jvm.ClassFile.Instr} {ls : vm_L} {st : List Value} {f h f1 : vm_H} {fr1 : vm_F} (hle : vm_le f h) (hx : vm_x mx i x y pc ls st f = some (fr1, f1, a, c)) : ∃ h1, vm_x mx i x y pc ls st h = some (fr1, h1, a, c) ∧ vm_kp f h f1 h1 := by
  cases i with
  | iconst n =>
    cases hx
    exact ⟨h, rfl, vm_kp.id hle⟩
  | bipush n =>
    cases hx
    exact ⟨h, rfl, vm_kp.id hle⟩
  | sipush n =>
    cases hx
    exact ⟨h, rfl, vm_kp.id hle⟩
  | lconst n =>
    cases hx
    exact ⟨h, rfl, vm_kp.id hle⟩
  | aconst_null =>
    cases hx
    exact ⟨h, rfl, vm_kp.id hle⟩
  | ldc2_w n =>
    cases hx
    exact ⟨h, rfl, vm_kp.id hle⟩
  | goto o =>
    cases hx
    exact ⟨h, rfl, vm_kp.id hle⟩
  | iload j =>
    simp only [vm_x, vm_loadI] at hx ⊢
    split at hx
    next v hv => cases hx; exact ⟨h, rfl, vm_kp.id hle⟩
    next => cases hx
  | iload_n j =>
    simp only [vm_x, vm_loadI] at hx ⊢
    split at hx
    next v hv => cases hx; exact ⟨h, rfl, vm_kp.id hle⟩
    next => cases hx
  | lload j =>
    simp only [vm_x, vm_loadL] at hx ⊢
    split at hx
    next v hv => cases hx; exact ⟨h, rfl, vm_kp.id hle⟩
    next => cases hx
  | lload_n j =>
    simp only [vm_x, vm_loadL] at hx ⊢
    split at hx
    next v hv => cases hx; exact ⟨h, rfl, vm_kp.id hle⟩
    next => cases hx
  | aload j =>
    simp only [vm_x, vm_loadA] at hx ⊢
    split at hx
    next v hv => cases hx; exact ⟨h, rfl, vm_kp.id hle⟩
    next hv => cases hx; exact ⟨h, rfl, vm_kp.id hle⟩
    next => cases hx
  | aload_n j =>
    simp only [vm_x, vm_loadA] at hx ⊢
    split at hx
    next v hv => cases hx; exact ⟨h, rfl, vm_kp.id hle⟩
    next hv => cases hx; exact ⟨h, rfl, vm_kp.id hle⟩
    next => cases hx
  | istore j =>
    simp only [vm_x, vm_storeI] at hx ⊢
    split at hx
    next v r =>
      split at hx
      next hi => cases hx; exact ⟨h, by rw [if_pos hi]; rfl, vm_kp.id hle⟩
      next => cases hx
    next => cases hx
  | istore_n j =>
    simp only [vm_x, vm_storeI] at hx ⊢
    split at hx
    next v r =>
      split at hx
      next hi => cases hx; exact ⟨h, by rw [if_pos hi]; rfl, vm_kp.id hle⟩
      next => cases hx
    next => cases hx
  | lstore j =>
    simp only [vm_x, vm_storeL] at hx ⊢
    split at hx
    next v r =>
      split at hx
      next hi => cases hx; exact ⟨h, by rw [if_pos hi]; rfl, vm_kp.id hle⟩
      next => cases hx
    next => cases hx
  | lstore_n j =>
    simp only [vm_x, vm_storeL] at hx ⊢
    split at hx
    next v r =>
      split at hx
      next hi => cases hx; exact ⟨h, by rw [if_pos hi]; rfl, vm_kp.id hle⟩
      next => cases hx
    next => cases hx
  | astore j =>
    simp only [vm_x, vm_storeA] at hx ⊢
    split at hx
    next v r =>
      split at hx
      next hi => cases hx; exact ⟨h, by rw [if_pos hi]; rfl, vm_kp.id hle⟩
      next => cases hx
    next r =>
      split at hx
      next hi => cases hx; exact ⟨h, by rw [if_pos hi]; rfl, vm_kp.id hle⟩
      next => cases hx
    next => cases hx
  | astore_n j =>
    simp only [vm_x, vm_storeA] at hx ⊢
    split at hx
    next v r =>
      split at hx
      next hi => cases hx; exact ⟨h, by rw [if_pos hi]; rfl, vm_kp.id hle⟩
      next => cases hx
    next r =>
      split at hx
      next hi => cases hx; exact ⟨h, by rw [if_pos hi]; rfl, vm_kp.id hle⟩
      next => cases hx
    next => cases hx
  | iinc j n =>
    simp only [vm_x] at hx ⊢
    split at hx
    next v hv =>
      split at hx
      next hi => cases hx; exact ⟨h, by rw [if_pos hi]; rfl, vm_kp.id hle⟩
      next => cases hx
    next => cases hx
  | iadd =>
    simp only [vm_x, vm_ii] at hx ⊢
    split at hx
    · cases hx; exact ⟨h, rfl, vm_kp.id hle⟩
    · cases hx
  | isub =>
    simp only [vm_x, vm_ii] at hx ⊢
    split at hx
    · cases hx; exact ⟨h, rfl, vm_kp.id hle⟩
    · cases hx
  | imul =>
    simp only [vm_x, vm_ii] at hx ⊢
    split at hx
    · cases hx; exact ⟨h, rfl, vm_kp.id hle⟩
    · cases hx
  | iand =>
    simp only [vm_x, vm_ii] at hx ⊢
    split at hx
    · cases hx; exact ⟨h, rfl, vm_kp.id hle⟩
    · cases hx
  | ior =>
    simp only [vm_x, vm_ii] at hx ⊢
    split at hx
    · cases hx; exact ⟨h, rfl, vm_kp.id hle⟩
    · cases hx
  | ishl =>
    simp only [vm_x, vm_ii] at hx ⊢
    split at hx
    · cases hx; exact ⟨h, rfl, vm_kp.id hle⟩
    · cases hx
  | iushr =>
    simp only [vm_x, vm_ii] at hx ⊢
    split at hx
    · cases hx; exact ⟨h, rfl, vm_kp.id hle⟩
    · cases hx
  | ladd =>
    simp only [vm_x, vm_ll] at hx ⊢
    split at hx
    · cases hx; exact ⟨h, rfl, vm_kp.id hle⟩
    · cases hx
  | lsub =>
    simp only [vm_x, vm_ll] at hx ⊢
    split at hx
    · cases hx; exact ⟨h, rfl, vm_kp.id hle⟩
    · cases hx
  | lmul =>
    simp only [vm_x, vm_ll] at hx ⊢
    split at hx
    · cases hx; exact ⟨h, rfl, vm_kp.id hle⟩
    · cases hx
  | land =>
    simp only [vm_x, vm_ll] at hx ⊢
    split at hx
    · cases hx; exact ⟨h, rfl, vm_kp.id hle⟩
    · cases hx
  | lor =>
    simp only [vm_x, vm_ll] at hx ⊢
    split at hx
    · cases hx; exact ⟨h, rfl, vm_kp.id hle⟩
    · cases hx
  | lxor =>
    simp only [vm_x, vm_ll] at hx ⊢
    split at hx
    · cases hx; exact ⟨h, rfl, vm_kp.id hle⟩
    · cases hx
  | lshl =>
    simp only [vm_x, vm_li] at hx ⊢
    split at hx
    · cases hx; exact ⟨h, rfl, vm_kp.id hle⟩
    · cases hx
  | lushr =>
    simp only [vm_x, vm_li] at hx ⊢
    split at hx
    · cases hx; exact ⟨h, rfl, vm_kp.id hle⟩
    · cases hx
  | lneg =>
    simp only [vm_x] at hx ⊢
    split at hx
    · cases hx; exact ⟨h, rfl, vm_kp.id hle⟩
    · cases hx
  | lcmp =>
    simp only [vm_x] at hx ⊢
    split at hx
    · cases hx; exact ⟨h, rfl, vm_kp.id hle⟩
    · cases hx
  | i2l =>
    simp only [vm_x] at hx ⊢
    split at hx
    · cases hx; exact ⟨h, rfl, vm_kp.id hle⟩
    · cases hx
  | l2i =>
    simp only [vm_x] at hx ⊢
    split at hx
    · cases hx; exact ⟨h, rfl, vm_kp.id hle⟩
    · cases hx
  | irem =>
    simp only [vm_x] at hx ⊢
    split at hx
    next v2 v1 r =>
      split at hx
      next => cases hx
      next h0 => cases hx; exact ⟨h, by rw [if_neg h0]; rfl, vm_kp.id hle⟩
    next => cases hx
  | ldiv =>
    simp only [vm_x] at hx ⊢
    split at hx
    next v2 v1 r =>
      split at hx
      next => cases hx
      next h0 => cases hx; exact ⟨h, by rw [if_neg h0]; rfl, vm_kp.id hle⟩
    next => cases hx
  | lrem =>
    simp only [vm_x] at hx ⊢
    split at hx
    next v2 v1 r =>
      split at hx
      next => cases hx
      next h0 => cases hx; exact ⟨h, by rw [if_neg h0]; rfl, vm_kp.id hle⟩
    next => cases hx
  | dup =>
    simp only [vm_x] at hx ⊢
    split at hx
    · split at hx
      next h1 => cases hx; exact ⟨h, by rw [if_pos h1]; rfl, vm_kp.id hle⟩
      next => cases hx
    · cases hx
  | pop =>
    simp only [vm_x] at hx ⊢
    split at hx
    · split at hx
      next h1 => cases hx; exact ⟨h, by rw [if_pos h1]; rfl, vm_kp.id hle⟩
      next => cases hx
    · cases hx
  | pop2 =>
    simp only [vm_x] at hx ⊢
    split at hx
    · split at hx
      next h1 => cases hx; exact ⟨h, by rw [if_pos h1]; rfl, vm_kp.id hle⟩
      next => cases hx
    · cases hx
  | dup2 =>
    simp only [vm_x] at hx ⊢
    split at hx
    · split at hx
      next h1 => cases hx; exact ⟨h, by rw [if_pos h1]; rfl, vm_kp.id hle⟩
      next => cases hx
    · cases hx
  | ifCond cd o =>
    simp only [vm_x, vm_br] at hx ⊢
    split at hx
    · split at hx
      next hb => cases hx; exact ⟨h, rfl, vm_kp.id hle⟩
      next hb => cases hx; exact ⟨h, rfl, vm_kp.id hle⟩
    · cases hx
  | if_icmp cd o =>
    simp only [vm_x, vm_br] at hx ⊢
    split at hx
    · split at hx
      next hb => cases hx; exact ⟨h, rfl, vm_kp.id hle⟩
      next hb => cases hx; exact ⟨h, rfl, vm_kp.id hle⟩
    · cases hx
  | if_acmp cd o =>
    cases cd with
    | eq => cases hx
    | ne =>
      simp only [vm_x, vm_br] at hx ⊢
      split at hx
      · split at hx
        next hb => cases hx; exact ⟨h, rfl, vm_kp.id hle⟩
        next hb => cases hx; exact ⟨h, rfl, vm_kp.id hle⟩
      · cases hx
  | ifnull o =>
    simp only [vm_x] at hx ⊢
    split at hx
    · cases hx; exact ⟨h, rfl, vm_kp.id hle⟩
    · cases hx; exact ⟨h, rfl, vm_kp.id hle⟩
    · cases hx
  | ifnonnull o =>
    simp only [vm_x] at hx ⊢
    split at hx
    · cases hx; exact ⟨h, rfl, vm_kp.id hle⟩
    · cases hx; exact ⟨h, rfl, vm_kp.id hle⟩
    · cases hx
  | tableswitch d lo hi offs =>
    simp only [vm_x] at hx ⊢
    split at hx
    next v1 r =>
      split at hx
      next ho =>
        split at hx
        next h0 => cases hx; exact ⟨h, by rw [if_pos ho, if_pos h0]; rfl, vm_kp.id hle⟩
        next => cases hx
      next ho =>
        rw [if_neg ho]
        split at hx
        next o hoo =>
          split at hx
          next h0 => cases hx; exact ⟨h, by show (if _ then _ else _) = _; rw [if_pos h0]; rfl, vm_kp.id hle⟩
          next => cases hx
        next => cases hx
    next => cases hx
  | getfield o =>
    simp only [vm_x, vm_get] at hx ⊢
    split at hx
    next n r =>
      split at hx
      next ci fs hat =>
        rw [hle.2 _ _ hat]
        split at hx
        next hci =>
          split at hx
          next v hv => cases hx; exact ⟨h, by show (if _ then _ else _) = _; rw [if_pos hci, hv]; rfl, vm_kp.id hle⟩
          next => cases hx
        next => cases hx
      next => cases hx
    next => cases hx
  | putfield o =>
    simp only [vm_x, vm_put] at hx ⊢
    split at hx
    next v n r =>
      split at hx
      next ci fs hat =>
        rw [hle.2 _ _ hat]
        split at hx
        next hci => cases hx; exact ⟨_, by show (if _ then _ else _) = _; rw [if_pos hci]; rfl, vm_kp.set hle hat⟩
        next => cases hx
      next => cases hx
    next => cases hx
  | iaload =>
    simp only [vm_x, vm_ald] at hx ⊢
    split at hx
    next i n r =>
      split at hx
      next hat =>
        rw [hle.2 _ _ hat]
        split at hx
        next => cases hx
        next hin => cases hx; exact ⟨h, by show (if _ then _ else _) = _; rw [if_neg hin]; rfl, vm_kp.id hle⟩
      next => cases hx
    next => cases hx
  | baload =>
    simp only [vm_x, vm_zld] at hx ⊢
    split at hx
    next i n r =>
      split at hx
      next hat =>
        rw [hle.2 _ _ hat]
        split at hx
        next => cases hx
        next hin => cases hx; exact ⟨h, by show (if _ then _ else _) = _; rw [if_neg hin]; rfl, vm_kp.id hle⟩
      next => cases hx
    next => cases hx
  | laload =>
    simp only [vm_x, vm_lld] at hx ⊢
    split at hx
    next i n r =>
      split at hx
      next hat =>
        rw [hle.2 _ _ hat]
        split at hx
        next => cases hx
        next hin => cases hx; exact ⟨h, by show (if _ then _ else _) = _; rw [if_neg hin]; rfl, vm_kp.id hle⟩
      next => cases hx
    next => cases hx
  | aaload =>
    simp only [vm_x, vm_qld] at hx ⊢
    split at hx
    next i n r =>
      split at hx
      next hat =>
        rw [hle.2 _ _ hat]
        split at hx
        next => cases hx
        next hin => cases hx; exact ⟨h, by show (if _ then _ else _) = _; rw [if_neg hin]; rfl, vm_kp.id hle⟩
      next => cases hx
    next => cases hx
  | iastore =>
    simp only [vm_x, vm_ast] at hx ⊢
    split at hx
    next v i n r =>
      split at hx
      next hat =>
        rw [hle.2 _ _ hat]
        split at hx
        next => cases hx
        next hin => cases hx; exact ⟨_, by show (if _ then _ else _) = _; rw [if_neg hin]; rfl, vm_kp.set hle hat⟩
      next => cases hx
    next => cases hx
  | bastore =>
    simp only [vm_x, vm_zst] at hx ⊢
    split at hx
    next v i n r =>
      split at hx
      next hat =>
        rw [hle.2 _ _ hat]
        split at hx
        next => cases hx
        next hin => cases hx; exact ⟨_, by show (if _ then _ else _) = _; rw [if_neg hin]; rfl, vm_kp.set hle hat⟩
      next => cases hx
    next => cases hx
  | lastore =>
    simp only [vm_x, vm_lst] at hx ⊢
    split at hx
    next v i n r =>
      split at hx
      next hat =>
        rw [hle.2 _ _ hat]
        split at hx
        next => cases hx
        next hin => cases hx; exact ⟨_, by show (if _ then _ else _) = _; rw [if_neg hin]; rfl, vm_kp.set hle hat⟩
      next => cases hx
    next => cases hx
  | aastore =>
    simp only [vm_x, vm_qst] at hx ⊢
    split at hx
    next a0 i n r =>
      split at hx
      next hat hav =>
        rw [hle.2 _ _ hat, hle.2 _ _ hav]
        split at hx
        next => cases hx
        next hin => cases hx; exact ⟨_, by show (if _ then _ else _) = _; rw [if_neg hin]; rfl, vm_kp.set hle hat⟩
      next => cases hx
    next => cases hx
  | arraylength =>
    simp only [vm_x, vm_len] at hx ⊢
    split at hx
    next n r =>
      split at hx
      next hat =>
        rw [hle.2 _ _ hat]
        split at hx
        next ht => cases hx; exact ⟨h, by show (if _ then _ else _) = _; rw [if_pos ht]; rfl, vm_kp.id hle⟩
        next => cases hx
      next => cases hx
    next => cases hx
  | new o =>
    simp only [vm_x, vm_new] at hx ⊢
    split at hx
    next q hq => cases hx; exact ⟨_, by rw [hle.1], vm_kp.push hle⟩
    next => cases hx
  | newarray ty =>
    simp only [vm_x, vm_newa] at hx ⊢
    split at hx
    next n r =>
      split at hx
      next => cases hx
      next hn =>
        rw [if_neg hn]
        split at hx
        · cases hx; exact ⟨_, by rw [hle.1], vm_kp.push hle⟩
        · cases hx; exact ⟨_, by rw [hle.1], vm_kp.push hle⟩
        · cases hx; exact ⟨_, by rw [hle.1], vm_kp.push hle⟩
        · cases hx
    next => cases hx
  | anewarray o =>
    simp only [vm_x, vm_newq] at hx ⊢
    split at hx
    next n r =>
      split at hx
      next => cases hx
      next hn => cases hx; exact ⟨_, by rw [if_neg hn, hle.1], vm_kp.push hle⟩
    next => cases hx
  | _ =>
    exact absurd hx (by simp [vm_x])
theorem vm_clfr {k j : Nat} {fr fr1 : vm_F} {as : List Value} {f h : vm_H} (hle : vm_le f h) (hx : vm_cl k fr f = some (j, as, fr1)) : vm_cl k fr h = some (j, as, fr1) := by
  have cv : ∀ (vt : Bool) (j' pc : Nat) (ls : vm_L) (st : List Value), vm_cv vt j' pc ls st f = some (j, as, fr1) → vm_cv vt j' pc ls st h = some (j, as, fr1) := by
    intro vt j' pc ls st hx
    simp only [vm_cv] at hx ⊢
    split at hx
    next n r hd =>
      split at hx
      next hat => rw [hle.2 _ _ hat]; exact hx
      next => cases hx
    next => cases hx
  unfold vm_cl at hx ⊢
  split at hx
  · exact hx
  · exact hx
  · exact cv _ _ _ _ _ hx
  · exact cv _ _ _ _ _ hx
  · exact cv _ _ _ _ _ hx
  · exact cv _ _ _ _ _ hx
  · cases hx
theorem vm_kp.trans {f h f1 h1 f2 h2 : vm_H} (a : vm_kp f h f1 h1) (b : vm_kp f1 h1 f2 h2) : vm_kp f h f2 h2 := by
  obtain ⟨a1, a2, a3⟩ := a
  obtain ⟨b1, b2, b3⟩ := b
  refine ⟨b1, Nat.le_trans a2 b2, fun n hn h0 => ?_⟩
  obtain ⟨c1, c2⟩ := a3 n hn h0
  obtain ⟨d1, d2⟩ := b3 n (by omega) c1
  exact ⟨d1, d2.trans c2⟩
theorem vm_acpfr {n dp sp : Int32} {a a0 : Nat} {f h f1 : vm_H} (hle : vm_le f h) (hx : vm_acp n dp a sp a0 f = some f1) : ∃ h1, vm_acp n dp a sp a0 h = some h1 ∧ vm_kp f h f1 h1 := by
  unfold vm_acp at hx
  split at hx
  next n0 f0 n1 g0 hat0 hat1 =>
    split at hx
    next hc =>
      cases hx
      refine ⟨_, ?_, vm_kp.set hle hat1⟩
      unfold vm_acp
      rw [hle.2 _ _ hat0, hle.2 _ _ hat1]
      exact if_pos hc
    next => cases hx
  next n0 f0 n1 g0 hat0 hat1 =>
    split at hx
    next hc =>
      cases hx
      refine ⟨_, ?_, vm_kp.set hle hat1⟩
      unfold vm_acp
      rw [hle.2 _ _ hat0, hle.2 _ _ hat1]
      exact if_pos hc
    next => cases hx
  next => cases hx
theorem vm_ntfr {k : Nat} {fr fr1 : vm_F} {f h f1 : vm_H} (hle : vm_le f h) (hx : vm_nt k fr f = some (fr1, f1)) : ∃ h1, vm_nt k fr h = some (fr1, h1) ∧ vm_kp f h f1 h1 := by
  unfold vm_nt at hx
  split at hx
  next o x z he =>
    split at hx
    next n r hst =>
      split at hx
      next hg =>
        cases hx
        refine ⟨h, ?_, vm_kp.id hle⟩
        unfold vm_nt
        simp only [he, hst]
        exact if_pos hg
      next => cases hx
    next => cases hx
  next o x z he =>
    split at hx
    next n dp a sp a0 r hst =>
      split at hx
      next hg =>
        split at hx
        next f2 hcp =>
          cases hx
          obtain ⟨h1, e1, k1⟩ := vm_acpfr hle hcp
          refine ⟨h1, ?_, k1⟩
          unfold vm_nt
          simp only [he, hst, e1]
          exact if_pos hg
        next => cases hx
      next => cases hx
    next => cases hx
  next o x0 z he =>
    split at hx
    next yy xx r hst =>
      split at hx
      next hg =>
        cases hx
        refine ⟨h, ?_, vm_kp.id hle⟩
        unfold vm_nt
        simp only [he, hst]
        exact if_pos hg
      next => cases hx
    next => cases hx
  next o x0 z he =>
    split at hx
    next yy xx r hst =>
      split at hx
      next hg =>
        cases hx
        refine ⟨h, ?_, vm_kp.id hle⟩
        unfold vm_nt
        simp only [he, hst]
        exact if_pos hg
      next => cases hx
    next => cases hx
  next o x0 z he =>
    split at hx
    next xx r hst =>
      split at hx
      next hg =>
        cases hx
        refine ⟨h, ?_, vm_kp.id hle⟩
        unfold vm_nt
        simp only [he, hst]
        exact if_pos hg
      next => cases hx
    next => cases hx
  next => cases hx
theorem vm_frame {d w k : Nat} {fr : vm_F} {f : vm_H} {o : vm_F × vm_H × Nat × Nat} (hg : vm_Go d w k fr f o) : ∀ h, vm_le f h → ∃ h2, vm_Go d w k fr h (o.1, h2, o.2.2.1, o.2.2.2) ∧ vm_kp f h o.2.1 h2 := by
  refine hg (fun d w k fr f o => ∀ h, vm_le f h → ∃ h2, vm_Go d w k fr h (o.1, h2, o.2.2.1, o.2.2.2) ∧ vm_kp f h o.2.1 h2) ⟨?_, ?_, ?_, ?_⟩
  · intro d w k fr f h hle
    exact ⟨h, vm_Go.rf, vm_kp.id hle⟩
  · intro d w k fr f fr1 f1 a c fr2 f2 nc ns hst ih h hle
    unfold vm_st at hst
    split at hst
    next i x y z he =>
      obtain ⟨h1, e1, k1⟩ := vm_xfr hle hst
      obtain ⟨h2, g2, k2⟩ := ih h1 k1.1
      refine ⟨h2, vm_Go.st (o := (fr2, h2, nc, ns)) ?_ g2, k1.trans k2⟩
      unfold vm_st
      rw [he]
      exact e1
    next => cases hst
  · intro d w k fr f j as fr1 d1 w1 frR f1 n1 s1 r fr2 f2 n2 s2 hcl hd hw ih1 hrt ih2 h hle
    obtain ⟨h1, g1, k1⟩ := ih1 h hle
    obtain ⟨h2, g2, k2⟩ := ih2 h1 k1.1
    exact ⟨h2, vm_Go.cl (vm_clfr hle hcl) hd hw g1 hrt g2, k1.trans k2⟩
  · intro d w k fr f fr1 f1 o hnt hd hw ih h hle
    obtain ⟨h1, e1, k1⟩ := vm_ntfr hle hnt
    obtain ⟨h2, g2, k2⟩ := ih h1 k1.1
    exact ⟨h2, vm_Go.nt e1 hd hw g2, k1.trans k2⟩
