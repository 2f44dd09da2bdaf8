theorem vm_P1 {cl : List vw_C} {q : Nat × va_E} {H : Heap} {D : va_G} (h : va_at D cl q H) : va_P D cl [q] H := by
  intro k r hk
  have hz : k < 1 := (List.getElem?_eq_some_iff.mp hk).1
  rw [show k = 0 by omega] at hk
  cases hk
  exact h
theorem vm_rf (bs b : Nat) (r : Option Nat) : vm_rv bs b (va_rf r) = va_rf (r.map (vm_ra bs b)) := by cases r <;> rfl
theorem vm_ui (cA : ClassId) (w j : Nat) (f : Nat → Int32) (v : Int32) : (vp_cell cA (w, .inl f)).setSlot j (.int v) = vp_cell cA (w, .inl (upd f j v)) := by
  rw [vp_cell_i, vp_cell_i, arrV_store]
  congr 2
  funext q
  by_cases hq : q = j
  · subst hq
    simp [updV, upd]
  · simp [updV, upd, hq]
theorem vm_ul (cA : ClassId) (w j : Nat) (f : Nat → Int64) (v : Int64) : (vp_cell cA (w, .inr (.inl f))).setSlot j (.long v) = vp_cell cA (w, .inr (.inl (vp_updL f j v))) := by
  rw [vp_cell_l, vp_cell_l, arrV_store]
  congr 2
  funext q
  by_cases hq : q = j
  · subst hq
    simp [updV, vp_updL]
  · simp [updV, vp_updL, hq]
theorem vm_uq (cA : ClassId) (w j : Nat) (f : Nat → Option Nat) (v : Nat) (g : Nat → Nat) : (vp_cell cA (w, .inr (.inr (.inr (.inr (fun i => (f i).map g)))))).setSlot j (.ref (g v)) = vp_cell cA (w, .inr (.inr (.inr (.inr (fun i => (va_up f j (some v) i).map g))))) := by
  rw [vp_cell_q, vp_cell_q, arrV_store]
  congr 2
  funext q
  by_cases hq : q = j
  · subst hq
    simp [updV, va_up, va_rf]
  · simp [updV, va_up, hq]
section VMR
variable {p : Program} {l : Launch} {e : Env} {R : Room} {s : State} {m : MethodId} {args : Array Value} {below : List Frame} {meth : Method} {c : Code} {H : Heap} {locs : List Loc} {cells slots : Nat} {Q : State → Prop}
variable {D : va_G} {ct : Nat → ClassId} {bs b L : Nat} {xs : Nat → Int32} {la : Array Slot}
variable {k pc x y z o nc ns : Nat} {ls : vm_L} {st : List Value} {vh vh' : vm_H} {fr' : vm_F}
theorem vm_getrow (C : vm_C p s m args meth c D ct k) (he : vm_ent k pc = some (.getfield o, x, y, z)) (hd : decode (vm_code k) pc = .ok (.getfield o, 3)) (hx : vm_get x y (pc + 3) ls st vh = some (fr', vh', nc, ns)) (hR : vm_R D ct bs b L xs vh s H) (hS : va_S (fun q => b ≤ q) s.heap H locs) (hl : lv_has la (vm_max k) (vm_lm bs b ls))
    (kk : vm_On p l e R s m args below meth c Q D ct bs b L xs (vm_max k) fr' vh' (cells + nc) (slots + ns)) : W p l e R s m args below meth c H locs cells slots Q (F0 m pc la (st.map (vm_rv bs b))) := by
  obtain ⟨hX, hb, hml, hr, hlk, hnm, hown, hts, hK⟩ := id C
  simp only [vm_get] at hx
  split at hx
  next n r =>
    split at hx
    next ci fs hat =>
      split at hx
      next hci =>
        split at hx
        next v hv =>
          simp only [vm_nx, Option.some.injEq, Prod.mk.injEq] at hx
          obtain ⟨rfl, rfl, rfl, rfl⟩ := hx
          subst hci
          have hn := hR.ne0 hat (by intro q; cases q)
          have hcell : va_at D vm_cls (vm_ra bs b n, .inr (ci, fs.map (vm_rv bs b))) H := hR.cell hn hat
          obtain ⟨⟨Cn, T, N⟩, hq, hy, hfl⟩ := vm_fld he
          exact va_get (v := vm_rv bs b v) hX hb hts (vm_cin hq) hown hK.1 (vm_P1 hcell) 0 rfl hq y hy (hts _ hfl) (fun _ h => h) (by rw [List.getElem?_map, hv]; rfl) hd (kk H locs la hR hS hl)
        next => cases hx
      next => cases hx
    next => cases hx
  next => cases hx
theorem vm_putrow (C : vm_C p s m args meth c D ct k) (he : vm_ent k pc = some (.putfield o, x, y, z)) (hd : decode (vm_code k) pc = .ok (.putfield o, 3)) (hx : vm_put x y (pc + 3) ls st vh = some (fr', vh', nc, ns)) (hR : vm_R D ct bs b L xs vh s H) (hS : va_S (fun q => b ≤ q) s.heap H locs) (hl : lv_has la (vm_max k) (vm_lm bs b ls))
    (kk : vm_On p l e R s m args below meth c Q D ct bs b L xs (vm_max k) fr' vh' (cells + nc) (slots + ns)) : W p l e R s m args below meth c H locs cells slots Q (F0 m pc la (st.map (vm_rv bs b))) := by
  obtain ⟨hX, hb, hml, hr, hlk, hnm, hown, hts, hK⟩ := id C
  simp only [vm_put] at hx
  split at hx
  next v n r =>
    split at hx
    next ci fs hat =>
      split at hx
      next hci =>
        obtain ⟨hci, hyl, hok⟩ := hci
        simp only [vm_nx, Option.some.injEq, Prod.mk.injEq] at hx
        obtain ⟨rfl, rfl, rfl, rfl⟩ := hx
        subst hci
        have hn := hR.ne0 hat (by intro q; cases q)
        have hcell : va_at D vm_cls (vm_ra bs b n, .inr (ci, fs.map (vm_rv bs b))) H := hR.cell hn hat
        obtain ⟨⟨Cn, T, N⟩, hq, hy, hfl, hfin⟩ := vm_fldp he
        have hap := va_apart (own := (vm_name k).cls) hts (vm_cin hq) (vm_tyF ci) (vm_cty hq) (vm_cnm hq) hK.1 hq
        obtain ⟨r1, h1, cell, q1, q2, q3, q4⟩ := hcell
        have hr1 : r1 = (Cn, T, N) := Option.some.inj (h1.symm.trans hq)
        subst hr1
        obtain ⟨hSl, hfc, kC, hkC, hkind⟩ := hK.1.1 ci _ hq
        obtain ⟨cf, kf, fi, f, hi, hsl⟩ := hSl y hy
        have hlay := hts _ (vm_cin hq _ (u_in_lay hy))
        unfold u_lay at hlay
        have hst := (u_facts hfc hkC (u_lays hts (vm_cin hq) hy) hi).1
        obtain ⟨ok1, ok2⟩ := vm_okv_n bs b hok
        have hlt : f.slot < cell.slots.size := by rw [hsl]; exact k2_hasslot (q4 y hy)
        have go : ∀ H1 : Heap, H1[vm_ra bs b n]? = some (cell.setSlot f.slot (vm_rv bs b v)) → H1.size = H.size → (∀ q, q ≠ vm_ra bs b n → H1[q]? = H[q]?) → W p l e R s m args below meth c H1 (locs ++ [⟨vm_ra bs b n, f.slot⟩]) cells slots Q (F0 m (pc + 3) la (r.map (vm_rv bs b))) := by
          intro H1 e1 e2 e3
          rw [hsl] at e1
          refine kk H1 _ la (hR.put hn (vm_at_lt hat) e2 e3 ?_) (hS.put e2 e3 (hR.ge hn)) hl
          refine ⟨_, hq, t_OB.to (V := updV (vp_V (fs.map (vm_rv bs b))) y (vm_rv bs b v)) ⟨_, e1, q2, q3, t_set q4 hap hy (vm_rv bs b v)⟩ (fun j _ => ?_)⟩
          rw [vp_updV_set (by rw [List.length_map]; exact hyl), List.map_set]
        by_cases hfb : (T y).2.2.2 = true
        · rw [if_pos hfb] at hlay
          obtain ⟨hf1, hf2⟩ := hfin hfb
          have hcf : m.cls = cf := by
            obtain ⟨_, _, c', _, _, _, -, -, hf', -, -, -, hown2, -⟩ := Cond.laysFinal_spec hlay
            have e1 : c' = cf := by have := hi.symm.trans hf'; simp at this; exact this.1.symm
            have hf2' : (T y).1 = (vm_name k).cls := hf2
            rw [hf2'] at hown2
            rw [← e1]; exact Option.some.inj (hown.symm.trans hown2)
          have h6 := u_fits hfc hkC hkind (Or.inr hlay) hi (vm_cty hq y hy) ok1 ok2
          exact W.putFinK hX hb hown (hts _ hfl) hi hst hcf (hnm.trans hf1) (by rw [q2]; exact h6) q1 q3 hlt rfl rfl hd go
        · rw [if_neg hfb] at hlay
          have h6 := u_store hfc hkC hkind hlay hi (vm_cty hq y hy) ok1 ok2
          exact W.putK hX hb (f := f) ⟨hown, hts _ hfl, ⟨_, _, _, hi⟩, hst⟩ (by rw [q2]; exact h6) q1 q3 hlt rfl rfl hd go
      next => cases hx
    next => cases hx
  next => cases hx
theorem vm_notout {i : Int32} {n : Nat} (h : ¬ vm_out i n = true) : vp_in i n := vm_out_in (by simpa using h)
theorem vm_aldrow (C : vm_C p s m args meth c D ct k) (hd : decode (vm_code k) pc = .ok (.iaload, 1)) (hx : vm_ald (pc + 1) ls st vh = some (fr', vh', nc, ns)) (hR : vm_R D ct bs b L xs vh s H) (hS : va_S (fun q => b ≤ q) s.heap H locs) (hl : lv_has la (vm_max k) (vm_lm bs b ls))
    (kk : vm_On p l e R s m args below meth c Q D ct bs b L xs (vm_max k) fr' vh' (cells + nc) (slots + ns)) : W p l e R s m args below meth c H locs cells slots Q (F0 m pc la (st.map (vm_rv bs b))) := by
  obtain ⟨hX, hb, hml, hr, hlk, hnm, hown, hts, hK⟩ := id C
  simp only [vm_ald] at hx
  split at hx
  next i n r =>
    split at hx
    next w f hat =>
      split at hx
      next => cases hx
      next hin =>
        simp only [vm_nx, Option.some.injEq, Prod.mk.injEq] at hx
        obtain ⟨rfl, rfl, rfl, rfl⟩ := hx
        by_cases hn : n = 0
        · subst hn
          have h1 := vm_at_some hat
          rw [hR.2.1] at h1
          cases h1
          exact va_sld (A := fun q => b ≤ q) hX hb hR.2.2.2.1 hR.lo.2 (show ¬ b ≤ bs from Nat.not_le.mpr hR.2.2.1) ⟨Nat.le_refl _, fun _ _ _ => rfl, hS.2.2⟩ (vm_notout hin) hd (kk H locs la hR hS hl)
        · have hcell : va_at D vm_cls (vm_ra bs b n, .inl (ct 0, w, .inl f)) H := hR.cell hn hat
          exact va_iald hX hb hK.1 (vm_P1 hcell) 0 0 rfl rfl (vm_notout hin) hd (kk H locs la hR hS hl)
    next => cases hx
  next => cases hx
theorem vm_zldrow (C : vm_C p s m args meth c D ct k) (hd : decode (vm_code k) pc = .ok (.baload, 1)) (hx : vm_zld (pc + 1) ls st vh = some (fr', vh', nc, ns)) (hR : vm_R D ct bs b L xs vh s H) (hS : va_S (fun q => b ≤ q) s.heap H locs) (hl : lv_has la (vm_max k) (vm_lm bs b ls))
    (kk : vm_On p l e R s m args below meth c Q D ct bs b L xs (vm_max k) fr' vh' (cells + nc) (slots + ns)) : W p l e R s m args below meth c H locs cells slots Q (F0 m pc la (st.map (vm_rv bs b))) := by
  obtain ⟨hX, hb, hml, hr, hlk, hnm, hown, hts, hK⟩ := id C
  simp only [vm_zld] at hx
  split at hx
  next i n r =>
    split at hx
    next w f hat =>
      split at hx
      next => cases hx
      next hin =>
        simp only [vm_nx, Option.some.injEq, Prod.mk.injEq] at hx
        obtain ⟨rfl, rfl, rfl, rfl⟩ := hx
        have hcell : va_at D vm_cls (vm_ra bs b n, .inl (ct 2, w, .inl f)) H := hR.cell (hR.ne0 hat (by intro q; cases q)) hat
        exact va_zald hX hb hK.1 (vm_P1 hcell) 0 2 rfl rfl (vm_notout hin) hd (kk H locs la hR hS hl)
    next => cases hx
  next => cases hx
theorem vm_lldrow (C : vm_C p s m args meth c D ct k) (hd : decode (vm_code k) pc = .ok (.laload, 1)) (hx : vm_lld (pc + 1) ls st vh = some (fr', vh', nc, ns)) (hR : vm_R D ct bs b L xs vh s H) (hS : va_S (fun q => b ≤ q) s.heap H locs) (hl : lv_has la (vm_max k) (vm_lm bs b ls))
    (kk : vm_On p l e R s m args below meth c Q D ct bs b L xs (vm_max k) fr' vh' (cells + nc) (slots + ns)) : W p l e R s m args below meth c H locs cells slots Q (F0 m pc la (st.map (vm_rv bs b))) := by
  obtain ⟨hX, hb, hml, hr, hlk, hnm, hown, hts, hK⟩ := id C
  simp only [vm_lld] at hx
  split at hx
  next i n r =>
    split at hx
    next w f hat =>
      split at hx
      next => cases hx
      next hin =>
        simp only [vm_nx, Option.some.injEq, Prod.mk.injEq] at hx
        obtain ⟨rfl, rfl, rfl, rfl⟩ := hx
        have hcell : va_at D vm_cls (vm_ra bs b n, .inl (ct 1, w, .inr (.inl f))) H := hR.cell (hR.ne0 hat (by intro q; cases q)) hat
        exact va_lald hX hb hK.1 (vm_P1 hcell) 0 1 rfl rfl (vm_notout hin) hd (kk H locs la hR hS hl)
    next => cases hx
  next => cases hx
theorem vm_qldrow (C : vm_C p s m args meth c D ct k) (hd : decode (vm_code k) pc = .ok (.aaload, 1)) (hx : vm_qld (pc + 1) ls st vh = some (fr', vh', nc, ns)) (hR : vm_R D ct bs b L xs vh s H) (hS : va_S (fun q => b ≤ q) s.heap H locs) (hl : lv_has la (vm_max k) (vm_lm bs b ls))
    (kk : vm_On p l e R s m args below meth c Q D ct bs b L xs (vm_max k) fr' vh' (cells + nc) (slots + ns)) : W p l e R s m args below meth c H locs cells slots Q (F0 m pc la (st.map (vm_rv bs b))) := by
  obtain ⟨hX, hb, hml, hr, hlk, hnm, hown, hts, hK⟩ := id C
  simp only [vm_qld] at hx
  split at hx
  next i n r =>
    split at hx
    next t w f hat =>
      split at hx
      next => cases hx
      next hin =>
        simp only [vm_nx, Option.some.injEq, Prod.mk.injEq] at hx
        obtain ⟨rfl, rfl, rfl, rfl⟩ := hx
        have hin2 : vm_out i w = false ∧ ¬ t < 3 ∧ ¬ 5 ≤ t := by
          simp only [Bool.or_eq_true, decide_eq_true_eq, not_or] at hin
          exact ⟨by simpa using hin.1.1, hin.1.2, hin.2⟩
        have h9 := vm_rf bs b (f i.toNatClampNeg)
        have hcell : va_at D vm_cls (vm_ra bs b n, .inl (ct t, w, .inr (.inr (.inr (.inr (fun j => (f j).map (vm_ra bs b))))))) H := hR.cell (hR.ne0 hat (by intro q; cases q)) hat
        have ht : t = 3 ∨ t = 4 := (fun (t' : Nat) (h1 : ¬ t' < 3) (h2 : ¬ 5 ≤ t') => (by omega : t' = 3 ∨ t' = 4)) t hin2.2.1 hin2.2.2
        rcases ht with rfl | rfl
        · exact va_aldq (C := vm_e3) hX hb hK.1 (vm_P1 hcell) 0 3 rfl rfl (vm_out_in hin2.1) hd (W.eq (congrArg (fun v => F0 m (pc + 1) la (v :: r.map (vm_rv bs b))) h9.symm) (kk H locs la hR hS hl))
        · exact va_aldq (C := vm_e4) hX hb hK.1 (vm_P1 hcell) 0 4 rfl rfl (vm_out_in hin2.1) hd (W.eq (congrArg (fun v => F0 m (pc + 1) la (v :: r.map (vm_rv bs b))) h9.symm) (kk H locs la hR hS hl))
    next => cases hx
  next => cases hx
theorem vm_lenrow (C : vm_C p s m args meth c D ct k) (hd : decode (vm_code k) pc = .ok (.arraylength, 1)) (hx : vm_len (pc + 1) ls st vh = some (fr', vh', nc, ns)) (hR : vm_R D ct bs b L xs vh s H) (hS : va_S (fun q => b ≤ q) s.heap H locs) (hl : lv_has la (vm_max k) (vm_lm bs b ls))
    (kk : vm_On p l e R s m args below meth c Q D ct bs b L xs (vm_max k) fr' vh' (cells + nc) (slots + ns)) : W p l e R s m args below meth c H locs cells slots Q (F0 m pc la (st.map (vm_rv bs b))) := by
  obtain ⟨hX, hb, hml, hr, hlk, hnm, hown, hts, hK⟩ := id C
  simp only [vm_len] at hx
  split at hx
  next n r =>
    split at hx
    next t w g hat =>
      split at hx
      next ht5 =>
        simp only [vm_nx, Option.some.injEq, Prod.mk.injEq] at hx
        obtain ⟨rfl, rfl, rfl, rfl⟩ := hx
        by_cases hn : n = 0
        · subst hn
          have h1 := vm_at_some hat
          rw [hR.2.1] at h1
          cases h1
          exact va_slen (A := fun q => b ≤ q) hX hb hR.2.2.2.1 hR.lo.2 (show ¬ b ≤ bs from Nat.not_le.mpr hR.2.2.1) ⟨Nat.le_refl _, fun _ _ _ => rfl, hS.2.2⟩ hd (kk H locs la hR hS hl)
        · have hcell0 := hR.cell hn hat
          have hcell : ∃ g2, va_at D vm_cls (vm_ra bs b n, .inl (ct t, w, g2)) H := by
            rcases g with f | f | f | f | f
            · exact ⟨_, hcell0⟩
            · exact ⟨_, hcell0⟩
            · exact ⟨_, hcell0⟩
            · exact ⟨_, hcell0⟩
            · exact ⟨_, hcell0⟩
          obtain ⟨g2, hcell⟩ := hcell
          have ht : t = 0 ∨ t = 1 ∨ t = 2 ∨ t = 3 ∨ t = 4 := (fun (t' : Nat) (h1 : t' < 5) => (by omega : t' = 0 ∨ t' = 1 ∨ t' = 2 ∨ t' = 3 ∨ t' = 4)) t ht5
          rcases ht with rfl | rfl | rfl | rfl | rfl
          · exact va_alen hX hb hK.1 (vm_P1 hcell) 0 0 rfl rfl rfl hd (kk H locs la hR hS hl)
          · exact va_alen hX hb hK.1 (vm_P1 hcell) 0 1 rfl rfl rfl hd (kk H locs la hR hS hl)
          · exact va_alen hX hb hK.1 (vm_P1 hcell) 0 2 rfl rfl rfl hd (kk H locs la hR hS hl)
          · exact va_alen hX hb hK.1 (vm_P1 hcell) 0 3 rfl rfl rfl hd (kk H locs la hR hS hl)
          · exact va_alen hX hb hK.1 (vm_P1 hcell) 0 4 rfl rfl rfl hd (kk H locs la hR hS hl)
      next => cases hx
    next => cases hx
  next => cases hx
theorem vm_astrow (C : vm_C p s m args meth c D ct k) (hd : decode (vm_code k) pc = .ok (.iastore, 1)) (hx : vm_ast (pc + 1) ls st vh = some (fr', vh', nc, ns)) (hR : vm_R D ct bs b L xs vh s H) (hS : va_S (fun q => b ≤ q) s.heap H locs) (hl : lv_has la (vm_max k) (vm_lm bs b ls))
    (kk : vm_On p l e R s m args below meth c Q D ct bs b L xs (vm_max k) fr' vh' (cells + nc) (slots + ns)) : W p l e R s m args below meth c H locs cells slots Q (F0 m pc la (st.map (vm_rv bs b))) := by
  obtain ⟨hX, hb, hml, hr, hlk, hnm, hown, hts, hK⟩ := id C
  simp only [vm_ast] at hx
  split at hx
  next v i n r =>
    split at hx
    next w f hat =>
      split at hx
      next => cases hx
      next hin =>
        simp only [vm_nx, Option.some.injEq, Prod.mk.injEq] at hx
        obtain ⟨rfl, rfl, rfl, rfl⟩ := hx
        have hin2 : vm_out i w = false ∧ ¬ n = 0 := by
          simp only [Bool.or_eq_true, decide_eq_true_eq, not_or] at hin
          exact ⟨by simpa using hin.1, hin.2⟩
        have hcell : H[vm_ra bs b n]? = some (vp_cell (ct 0) (w, .inl f)) := hR.cell hin2.2 hat
        refine W.iast hX hb hcell ((hK.1.2 0 _ rfl).1 w (fun j => .int (f j))) (fun q => by cases q) (by show ¬ (i < 0 ∨ (arrV _ _ _).slots.size ≤ _); rw [arrV_size]; exact vm_out_in hin2.1) rfl rfl hd fun H1 e1 z1 o1 => ?_
        rw [vm_ui] at e1
        exact kk H1 _ la (hR.put hin2.2 (vm_at_lt hat) z1 o1 e1) (hS.put z1 o1 (hR.ge hin2.2)) hl
    next => cases hx
  next => cases hx
theorem vm_zstrow (C : vm_C p s m args meth c D ct k) (hd : decode (vm_code k) pc = .ok (.bastore, 1)) (hx : vm_zst (pc + 1) ls st vh = some (fr', vh', nc, ns)) (hR : vm_R D ct bs b L xs vh s H) (hS : va_S (fun q => b ≤ q) s.heap H locs) (hl : lv_has la (vm_max k) (vm_lm bs b ls))
    (kk : vm_On p l e R s m args below meth c Q D ct bs b L xs (vm_max k) fr' vh' (cells + nc) (slots + ns)) : W p l e R s m args below meth c H locs cells slots Q (F0 m pc la (st.map (vm_rv bs b))) := by
  obtain ⟨hX, hb, hml, hr, hlk, hnm, hown, hts, hK⟩ := id C
  simp only [vm_zst] at hx
  split at hx
  next v i n r =>
    split at hx
    next w f hat =>
      split at hx
      next => cases hx
      next hin =>
        simp only [vm_nx, Option.some.injEq, Prod.mk.injEq] at hx
        obtain ⟨rfl, rfl, rfl, rfl⟩ := hx
        have hn := hR.ne0 hat (by intro q; cases q)
        have hcell : H[vm_ra bs b n]? = some (vp_cell (ct 2) (w, .inl f)) := hR.cell hn hat
        refine W.zast hX hb hcell ((hK.1.2 2 _ rfl).1 w (fun j => .int (f j))) (fun q => by cases q) (by show ¬ (i < 0 ∨ (arrV _ _ _).slots.size ≤ _); rw [arrV_size]; exact vm_notout hin) rfl rfl hd fun H1 e1 z1 o1 => ?_
        rw [show narrow .boolean (.int v) = .int (v &&& 1) from rfl, vm_ui] at e1
        exact kk H1 _ la (hR.put hn (vm_at_lt hat) z1 o1 e1) (hS.put z1 o1 (hR.ge hn)) hl
    next => cases hx
  next => cases hx
theorem vm_lstrow (C : vm_C p s m args meth c D ct k) (hd : decode (vm_code k) pc = .ok (.lastore, 1)) (hx : vm_lst (pc + 1) ls st vh = some (fr', vh', nc, ns)) (hR : vm_R D ct bs b L xs vh s H) (hS : va_S (fun q => b ≤ q) s.heap H locs) (hl : lv_has la (vm_max k) (vm_lm bs b ls))
    (kk : vm_On p l e R s m args below meth c Q D ct bs b L xs (vm_max k) fr' vh' (cells + nc) (slots + ns)) : W p l e R s m args below meth c H locs cells slots Q (F0 m pc la (st.map (vm_rv bs b))) := by
  obtain ⟨hX, hb, hml, hr, hlk, hnm, hown, hts, hK⟩ := id C
  simp only [vm_lst] at hx
  split at hx
  next v i n r =>
    split at hx
    next w f hat =>
      split at hx
      next => cases hx
      next hin =>
        simp only [vm_nx, Option.some.injEq, Prod.mk.injEq] at hx
        obtain ⟨rfl, rfl, rfl, rfl⟩ := hx
        have hn := hR.ne0 hat (by intro q; cases q)
        have hcell : H[vm_ra bs b n]? = some (vp_cell (ct 1) (w, .inr (.inl f))) := hR.cell hn hat
        refine W.last hX hb hcell ((hK.1.2 1 _ rfl).1 w (fun j => .long (f j))) (fun q => by cases q) (by show ¬ (i < 0 ∨ (arrV _ _ _).slots.size ≤ _); rw [arrV_size]; exact vm_notout hin) rfl rfl hd fun H1 e1 z1 o1 => ?_
        rw [vm_ul] at e1
        exact kk H1 _ la (hR.put hn (vm_at_lt hat) z1 o1 e1) (hS.put z1 o1 (hR.ge hn)) hl
    next => cases hx
  next => cases hx
theorem vm_qstrow (C : vm_C p s m args meth c D ct k) (hd : decode (vm_code k) pc = .ok (.aastore, 1)) (hx : vm_qst (pc + 1) ls st vh = some (fr', vh', nc, ns)) (hR : vm_R D ct bs b L xs vh s H) (hS : va_S (fun q => b ≤ q) s.heap H locs) (hl : lv_has la (vm_max k) (vm_lm bs b ls))
    (kk : vm_On p l e R s m args below meth c Q D ct bs b L xs (vm_max k) fr' vh' (cells + nc) (slots + ns)) : W p l e R s m args below meth c H locs cells slots Q (F0 m pc la (st.map (vm_rv bs b))) := by
  obtain ⟨hX, hb, hml, hr, hlk, hnm, hown, hts, hK⟩ := id C
  simp only [vm_qst] at hx
  split at hx
  next a i n r =>
    split at hx
    next t w f ci fs hat hav =>
      split at hx
      next => cases hx
      next hin =>
        simp only [vm_nx, Option.some.injEq, Prod.mk.injEq] at hx
        obtain ⟨rfl, rfl, rfl, rfl⟩ := hx
        have hin2 : vm_out i w = false ∧ vm_aok t ci = true := by
          simp only [Bool.or_eq_true, Bool.not_eq_true', not_or, Bool.not_eq_true] at hin
          exact ⟨hin.1, by simpa using hin.2⟩
        have hn := hR.ne0 hat (by intro q; cases q)
        have ha := hR.ne0 hav (by intro q; cases q)
        have hcell : H[vm_ra bs b n]? = some (vp_cell (ct t) (w, .inr (.inr (.inr (.inr (fun j => (f j).map (vm_ra bs b))))))) := hR.cell hn hat
        have hcv : va_at D vm_cls (vm_ra bs b a, .inr (ci, fs.map (vm_rv bs b))) H := hR.cell ha hav
        obtain ⟨q', ht, hqc⟩ := vm_aoks (ct := ct) hin2.2
        obtain ⟨r', hr', cellV, g1, g2, g3, -⟩ := hcv
        have hcls := (hK.1.1 ci q' hqc).2
        obtain ⟨kA, comp, k1, k2, k3, -⟩ := (hK.1.2 t _ ht).2
        have hcomp : comp = D.1 ci := Option.some.inj (k3.symm.trans hcls.1)
        subst hcomp
        obtain ⟨kC, hkC, -⟩ := id hcls.2
        have hp := vm_out_in hin2.1
        refine W.aast hX hb hcell (fun q h => by cases h) (fun h => by cases h) k1 k2 rfl hkC ⟨fun q => hp (Or.inl q), by show _ < (arrV _ _ _).slots.size; rw [arrV_size]; exact Nat.not_le.mp fun q => hp (Or.inr q)⟩ g1 (fun q h => by rw [g3] at h; cases h) (by rw [g2]; exact hkC) (by rw [g2]; exact va_assign hcls) rfl rfl hd fun H1 e1 z1 o1 => ?_
        rw [vm_uq] at e1
        exact kk H1 _ la (hR.put hn (vm_at_lt hat) z1 o1 e1) (hS.put z1 o1 (hR.ge hn)) hl
    next => cases hx
  next => cases hx
theorem vm_Spush {H1 : Heap} (hS : va_S (fun q => b ≤ q) s.heap H locs) (z : H1.size = H.size + 1) (o1 : ∀ q : Nat, q < H.size → H1[q]? = H[q]?) : va_S (fun q => b ≤ q) s.heap H1 locs :=
  ⟨Nat.le_trans hS.1 (by omega), fun x h1 h2 => (o1 x (Nat.lt_of_lt_of_le h1 hS.1)).trans (hS.2.1 x h1 h2), hS.2.2⟩
theorem vm_newrow (C : vm_C p s m args meth c D ct k) (he : vm_ent k pc = some (.new o, x, y, z)) (hd : decode (vm_code k) pc = .ok (.new o, 3)) (hx : vm_new x (pc + 3) ls st vh = some (fr', vh', nc, ns)) (hc : cells + nc ≤ R.cells) (hs : slots + ns ≤ R.slots) (hR : vm_R D ct bs b L xs vh s H) (hS : va_S (fun q => b ≤ q) s.heap H locs) (hl : lv_has la (vm_max k) (vm_lm bs b ls))
    (kk : vm_On p l e R s m args below meth c Q D ct bs b L xs (vm_max k) fr' vh' (cells + nc) (slots + ns)) : W p l e R s m args below meth c H locs cells slots Q (F0 m pc la (st.map (vm_rv bs b))) := by
  obtain ⟨hX, hb, hml, hr, hlk, hnm, hown, hts, hK⟩ := id C
  simp only [vm_new] at hx
  split at hx
  next q hq =>
    obtain ⟨Cn, T, N⟩ := q
    simp only [Option.some.injEq, Prod.mk.injEq] at hx
    obtain ⟨rfl, rfl, rfl, rfl⟩ := hx
    obtain ⟨hcl, hins, hini⟩ := vm_newok he hq
    have hKn := hK.1.1 x _ hq
    refine W.newcK hX hb hown (hts _ hcl) (hts _ hins) (hts _ hini) rfl hd hc hs hKn.2.1 rfl fun H1 kC hkC e1 z1 o1 => ?_
    have hcell : va_at D vm_cls (H.size, vm_re ct bs b (.inr (x, (List.range N).map (fun j => defaultValue (vm_tyF x j))))) H1 := by
      refine ⟨_, hq, (u_born (vm_tyF x) hts (vm_cin hq) hKn hkC e1 (vm_cty hq)).to (fun j hj => ?_)⟩
      have hj' : j < N := hj
      simp [vp_V, hj', vm_rv_dv]
    obtain ⟨h1, h2⟩ := hR.push z1 o1 hcell
    have h3 := kk H1 locs la h1 (vm_Spush hS z1 o1) hl
    have e9 : vm_rv bs b (.ref vh.length) = .ref H.size := by show Value.ref (vm_ra bs b vh.length) = _; rw [h2]
    exact W.eq (congrArg (fun v => F0 m (pc + 3) la (v :: st.map (vm_rv bs b))) e9.symm) h3
  next => cases hx
theorem vm_newarow {ty : Jvm.ClassFile.ArrayType} (C : vm_C p s m args meth c D ct k) (hd : decode (vm_code k) pc = .ok (.newarray ty, 2)) (hx : vm_newa ty (pc + 2) ls st vh = some (fr', vh', nc, ns)) (hc : cells + nc ≤ R.cells) (hs : slots + ns ≤ R.slots) (hR : vm_R D ct bs b L xs vh s H) (hS : va_S (fun q => b ≤ q) s.heap H locs) (hl : lv_has la (vm_max k) (vm_lm bs b ls))
    (kk : vm_On p l e R s m args below meth c Q D ct bs b L xs (vm_max k) fr' vh' (cells + nc) (slots + ns)) : W p l e R s m args below meth c H locs cells slots Q (F0 m pc la (st.map (vm_rv bs b))) := by
  obtain ⟨hX, hb, hml, hr, hlk, hnm, hown, hts, hK⟩ := id C
  simp only [vm_newa] at hx
  split at hx
  next n r =>
    split at hx
    next => cases hx
    next hn =>
      have hn0 : ¬ n < 0 := fun q => hn (Or.inl q)
      have hn1 : n.toNatClampNeg ≤ 65536 := Nat.not_lt.mp fun q => hn (Or.inr q)
      split at hx
      next =>
        simp only [Option.some.injEq, Prod.mk.injEq] at hx
        obtain ⟨rfl, rfl, rfl, rfl⟩ := hx
        refine va_newaK hX hb (hts _ vm_arI) rfl hd rfl hn0 rfl (by show _ * 4 ≤ _; omega) hc hs rfl fun H1 cA e1 z1 o1 _ hf => ?_
        have hcA : cA = ct 0 := Option.some.inj (hf.symm.trans (hK.1.2 0 _ rfl).2)
        subst hcA
        obtain ⟨h1, h2⟩ := hR.push (c := .inl (0, n.toNatClampNeg, .inl (fun _ => 0))) z1 o1 e1
        have e9 : vm_rv bs b (.ref vh.length) = .ref H.size := by show Value.ref (vm_ra bs b vh.length) = _; rw [h2]
        exact W.eq (congrArg (fun v => F0 m (pc + 2) la (v :: r.map (vm_rv bs b))) e9.symm) (kk H1 locs la h1 (vm_Spush hS z1 o1) hl)
      next =>
        simp only [Option.some.injEq, Prod.mk.injEq] at hx
        obtain ⟨rfl, rfl, rfl, rfl⟩ := hx
        refine va_newaK hX hb (hts _ vm_arL) rfl hd rfl hn0 rfl (by show _ * 8 ≤ _; omega) hc hs rfl fun H1 cA e1 z1 o1 _ hf => ?_
        have hcA : cA = ct 1 := Option.some.inj (hf.symm.trans (hK.1.2 1 _ rfl).2)
        subst hcA
        obtain ⟨h1, h2⟩ := hR.push (c := .inl (1, n.toNatClampNeg, .inr (.inl (fun _ => 0)))) z1 o1 e1
        have e9 : vm_rv bs b (.ref vh.length) = .ref H.size := by show Value.ref (vm_ra bs b vh.length) = _; rw [h2]
        exact W.eq (congrArg (fun v => F0 m (pc + 2) la (v :: r.map (vm_rv bs b))) e9.symm) (kk H1 locs la h1 (vm_Spush hS z1 o1) hl)
      next =>
        simp only [Option.some.injEq, Prod.mk.injEq] at hx
        obtain ⟨rfl, rfl, rfl, rfl⟩ := hx
        refine va_newaK hX hb (hts _ vm_arZ) rfl hd rfl hn0 rfl (by show _ * 1 ≤ _; omega) hc hs rfl fun H1 cA e1 z1 o1 _ hf => ?_
        have hcA : cA = ct 2 := Option.some.inj (hf.symm.trans (hK.1.2 2 _ rfl).2)
        subst hcA
        obtain ⟨h1, h2⟩ := hR.push (c := .inl (2, n.toNatClampNeg, .inl (fun _ => 0))) z1 o1 e1
        have e9 : vm_rv bs b (.ref vh.length) = .ref H.size := by show Value.ref (vm_ra bs b vh.length) = _; rw [h2]
        exact W.eq (congrArg (fun v => F0 m (pc + 2) la (v :: r.map (vm_rv bs b))) e9.symm) (kk H1 locs la h1 (vm_Spush hS z1 o1) hl)
      next => cases hx
  next => cases hx
theorem vm_newqrow (C : vm_C p s m args meth c D ct k) (he : vm_ent k pc = some (.anewarray o, x, y, z)) (hd : decode (vm_code k) pc = .ok (.anewarray o, 3)) (hx : vm_newq x (pc + 3) ls st vh = some (fr', vh', nc, ns)) (hc : cells + nc ≤ R.cells) (hs : slots + ns ≤ R.slots) (hR : vm_R D ct bs b L xs vh s H) (hS : va_S (fun q => b ≤ q) s.heap H locs) (hl : lv_has la (vm_max k) (vm_lm bs b ls))
    (kk : vm_On p l e R s m args below meth c Q D ct bs b L xs (vm_max k) fr' vh' (cells + nc) (slots + ns)) : W p l e R s m args below meth c H locs cells slots Q (F0 m pc la (st.map (vm_rv bs b))) := by
  obtain ⟨hX, hb, hml, hr, hlk, hnm, hown, hts, hK⟩ := id C
  simp only [vm_newq] at hx
  split at hx
  next n r =>
    split at hx
    next => cases hx
    next hn =>
      have hn0 : ¬ n < 0 := fun q => hn (Or.inl q)
      have hn1 : n.toNatClampNeg ≤ 65536 := Nat.not_lt.mp fun q => hn (Or.inr q)
      simp only [Option.some.injEq, Prod.mk.injEq] at hx
      obtain ⟨rfl, rfl, rfl, rfl⟩ := hx
      obtain ⟨Cn, hcl, hty, hover⟩ : ∃ Cn : String, Cond.classLink (vm_name k).cls o Cn ∈ vm_ws ∧ (vm_tys ct)[x]? = some (ct x, .object Cn) ∧ va_AO Cn s := by
        rcases vm_newqw he with ⟨rfl, h⟩ | ⟨rfl, h⟩
        · exact ⟨_, h, rfl, hK.2.1⟩
        · exact ⟨_, h, rfl, hK.2.2.1⟩
      refine W.anew hX hb hown (hts _ hcl) (va_AO.use hover) rfl hd rfl hn0 (by omega) hc hs fun cA kA comp f1 f2 f3 f4 => ?_
      have hcA : cA = ct x := by
        obtain ⟨_, _, -, -, -, h4⟩ := (hK.1.2 x _ hty).2
        exact Option.some.inj (f1.symm.trans h4)
      subst hcA
      generalize hH1 : H.push ({ cls := ct x, slots := Array.replicate n.toNatClampNeg .null, vm := .none } : Cell) = H1
      have z1 : H1.size = H.size + 1 := by rw [← hH1, Array.size_push]
      have e1 : H1[H.size]? = some (arrV (ct x) n.toNatClampNeg (fun _ => .null)) := by rw [← hH1, Array.getElem?_push_size, ← arrV_new]
      have o1 : ∀ q : Nat, q < H.size → H1[q]? = H[q]? := fun q hq => by rw [← hH1, Array.getElem?_push, if_neg (Nat.ne_of_lt hq)]
      obtain ⟨h1, h2⟩ := hR.push (c := .inl (x, n.toNatClampNeg, .inr (.inr (.inr (.inr (fun _ => none)))))) z1 o1 e1
      have e9 : vm_rv bs b (.ref vh.length) = .ref H.size := by show Value.ref (vm_ra bs b vh.length) = _; rw [h2]
      exact W.eq (congrArg (fun v => F0 m (pc + 3) la (v :: r.map (vm_rv bs b))) e9.symm) (kk H1 locs la h1 (vm_Spush hS z1 o1) hl)
  next => cases hx
end VMR
