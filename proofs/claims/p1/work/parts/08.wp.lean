/-! What a method comes to, backwards: rows for the walk of a method that makes no cell. -/
def vm_Wp (d w k : Nat) (fr : vm_F) (vh : vm_H) (Post : vm_F → vm_H → Prop) : Prop := ∃ fr2 vh2, vm_Go d w k fr vh (fr2, vh2, 0, 0) ∧ Post fr2 vh2
def vm_Rp (d w j : Nat) (as : List Value) (vh : vm_H) (Post : Option Value → vm_H → Prop) : Prop := vm_Wp d w j (0, lv_args 0 as, []) vh (fun fr vh1 => ∃ r, vm_rt j fr = some r ∧ Post r vh1)
/-- the cells are the same but the one at n -/
def vm_but (n : Nat) (vh vh1 : vm_H) : Prop := vh1.length = vh.length ∧ ∀ m, m ≠ n → vm_at vh1 m = vm_at vh m
section VMWP
variable {d w k pc x y z n : Nat} {ls : vm_L} {st r : List Value} {vh : vm_H} {Post : vm_F → vm_H → Prop}
theorem w_end {fr : vm_F} (h : Post fr vh) : vm_Wp d w k fr vh Post := ⟨fr, vh, vm_Go.rf, h⟩
theorem w_st {fr fr1 : vm_F} {vh1 : vm_H} (h : vm_st k fr vh = some (fr1, vh1, 0, 0)) (g : vm_Wp d w k fr1 vh1 Post) : vm_Wp d w k fr vh Post := by
  obtain ⟨fr2, vh2, g1, g2⟩ := g
  exact ⟨fr2, vh2, vm_Go.st (o := (fr2, vh2, 0, 0)) h g1, g2⟩
theorem vm_st_of {i : Jvm.ClassFile.Instr} (e : vm_ent k pc = some (i, x, y, z)) : vm_st k (pc, ls, st) vh = vm_x (vm_max k) i x y pc ls st vh := by
  unfold vm_st
  rw [e]
theorem w_x {i : Jvm.ClassFile.Instr} {fr1 : vm_F} (e : vm_ent k pc = some (i, x, y, z)) (h : vm_x (vm_max k) i x y pc ls st vh = some (fr1, vh, 0, 0)) (g : vm_Wp d w k fr1 vh Post) : vm_Wp d w k (pc, ls, st) vh Post := w_st ((vm_st_of e).trans h) g
theorem w_if1 {cd : Jvm.ClassFile.Cond} {off : Int} {a : Int32} (e : vm_ent k pc = some (.ifCond cd off, x, y, z)) (h : vm_cond cd a 0 = true) (g : vm_Wp d w k (x, ls, r) vh Post) : vm_Wp d w k (pc, ls, .int a :: r) vh Post := w_x e (by simp only [vm_x, h]; rfl) g
theorem w_if0 {cd : Jvm.ClassFile.Cond} {off : Int} {a : Int32} (e : vm_ent k pc = some (.ifCond cd off, x, y, z)) (h : vm_cond cd a 0 = false) (g : vm_Wp d w k (pc + 3, ls, r) vh Post) : vm_Wp d w k (pc, ls, .int a :: r) vh Post := w_x e (by simp only [vm_x, h]; rfl) g
theorem w_ic1 {cd : Jvm.ClassFile.Cond} {off : Int} {a b : Int32} (e : vm_ent k pc = some (.if_icmp cd off, x, y, z)) (h : vm_cond cd a b = true) (g : vm_Wp d w k (x, ls, r) vh Post) : vm_Wp d w k (pc, ls, .int b :: .int a :: r) vh Post := w_x e (by simp only [vm_x, h]; rfl) g
theorem w_ic0 {cd : Jvm.ClassFile.Cond} {off : Int} {a b : Int32} (e : vm_ent k pc = some (.if_icmp cd off, x, y, z)) (h : vm_cond cd a b = false) (g : vm_Wp d w k (pc + 3, ls, r) vh Post) : vm_Wp d w k (pc, ls, .int b :: .int a :: r) vh Post := w_x e (by simp only [vm_x, h]; rfl) g
theorem w_swO {dt lo hi : Int} {offs : Array Int} {a : Int32} {t : Nat} (e : vm_ent k pc = some (.tableswitch dt lo hi offs, x, y, z)) (h : a.toInt < lo ∨ hi < a.toInt) (ht : (pc : Int) + dt = (t : Int)) (g : vm_Wp d w k (t, ls, r) vh Post) : vm_Wp d w k (pc, ls, .int a :: r) vh Post :=
  w_x e (by simp only [vm_x, h, if_true, ht]; rw [if_pos (Int.natCast_nonneg t)]; rfl) g
theorem w_swI {dt lo hi o : Int} {offs : Array Int} {a : Int32} {t : Nat} (e : vm_ent k pc = some (.tableswitch dt lo hi offs, x, y, z)) (h : ¬ (a.toInt < lo ∨ hi < a.toInt)) (ho : offs[(a.toInt - lo).toNat]? = some o) (ht : (pc : Int) + o = (t : Int)) (g : vm_Wp d w k (t, ls, r) vh Post) : vm_Wp d w k (pc, ls, .int a :: r) vh Post :=
  w_x e (by simp only [vm_x, h, if_false, ho, ht]; rw [if_pos (Int.natCast_nonneg t)]; rfl) g
theorem w_get {off : Nat} {fs : List Value} {v : Value} (e : vm_ent k pc = some (.getfield off, x, y, z)) (h : vm_at vh n = some (.inr (x, fs))) (hv : fs[y]? = some v) (g : vm_Wp d w k (pc + 3, ls, v :: r) vh Post) : vm_Wp d w k (pc, ls, .ref n :: r) vh Post :=
  w_x e (by simp only [vm_x, vm_get, h, if_true, hv]; rfl) g
theorem vm_but_set {c0 c : va_E} (h : vm_at vh n = some c0) : vm_but n vh (vh.set n (some c)) ∧ vm_at (vh.set n (some c)) n = some c := ⟨⟨List.length_set, fun _ hm => vm_at_ne (Ne.symm hm)⟩, vm_at_eq h⟩
theorem w_put {off : Nat} {fs : List Value} {v : Value} (e : vm_ent k pc = some (.putfield off, x, y, z)) (h : vm_at vh n = some (.inr (x, fs))) (hy : y < fs.length) (hk : vm_okv (vm_tyF x y) v = true) (g : ∀ vh1, vm_but n vh vh1 → vm_at vh1 n = some (.inr (x, fs.set y v)) → vm_Wp d w k (pc + 3, ls, r) vh1 Post) : vm_Wp d w k (pc, ls, v :: .ref n :: r) vh Post :=
  w_st ((vm_st_of e).trans (by simp only [vm_x, vm_put, h]; rw [if_pos ⟨trivial, hy, hk⟩]; rfl)) (g _ (vm_but_set h).1 (vm_but_set h).2)
theorem w_ald {i : Int32} {a : Nat} {f : Nat → Int32} (e : vm_ent k pc = some (.iaload, x, y, z)) (h : vm_at vh n = some (.inl (0, a, .inl f))) (ho : vm_out i a = false) (g : vm_Wp d w k (pc + 1, ls, .int (f i.toNatClampNeg) :: r) vh Post) : vm_Wp d w k (pc, ls, .int i :: .ref n :: r) vh Post :=
  w_x e (by simp only [vm_x, vm_ald, h, ho]; rfl) g
theorem w_zld {i : Int32} {a : Nat} {f : Nat → Int32} (e : vm_ent k pc = some (.baload, x, y, z)) (h : vm_at vh n = some (.inl (2, a, .inl f))) (ho : vm_out i a = false) (g : vm_Wp d w k (pc + 1, ls, .int (f i.toNatClampNeg) :: r) vh Post) : vm_Wp d w k (pc, ls, .int i :: .ref n :: r) vh Post :=
  w_x e (by simp only [vm_x, vm_zld, h, ho]; rfl) g
theorem w_lld {i : Int32} {a : Nat} {f : Nat → Int64} (e : vm_ent k pc = some (.laload, x, y, z)) (h : vm_at vh n = some (.inl (1, a, .inr (.inl f)))) (ho : vm_out i a = false) (g : vm_Wp d w k (pc + 1, ls, .long (f i.toNatClampNeg) :: r) vh Post) : vm_Wp d w k (pc, ls, .int i :: .ref n :: r) vh Post :=
  w_x e (by simp only [vm_x, vm_lld, h, ho]; rfl) g
theorem w_ast {i v : Int32} {a : Nat} {f : Nat → Int32} (e : vm_ent k pc = some (.iastore, x, y, z)) (h : vm_at vh n = some (.inl (0, a, .inl f))) (ho : vm_out i a = false) (hn : n ≠ 0) (g : ∀ vh1, vm_but n vh vh1 → vm_at vh1 n = some (.inl (0, a, .inl (upd f i.toNatClampNeg v))) → vm_Wp d w k (pc + 1, ls, r) vh1 Post) : vm_Wp d w k (pc, ls, .int v :: .int i :: .ref n :: r) vh Post :=
  w_st ((vm_st_of e).trans (by simp only [vm_x, vm_ast, h, ho, hn, decide_false, Bool.or_false]; rfl)) (g _ (vm_but_set h).1 (vm_but_set h).2)
theorem w_zst {i v : Int32} {a : Nat} {f : Nat → Int32} (e : vm_ent k pc = some (.bastore, x, y, z)) (h : vm_at vh n = some (.inl (2, a, .inl f))) (ho : vm_out i a = false) (g : ∀ vh1, vm_but n vh vh1 → vm_at vh1 n = some (.inl (2, a, .inl (upd f i.toNatClampNeg (v &&& 1)))) → vm_Wp d w k (pc + 1, ls, r) vh1 Post) : vm_Wp d w k (pc, ls, .int v :: .int i :: .ref n :: r) vh Post :=
  w_st ((vm_st_of e).trans (by simp only [vm_x, vm_zst, h, ho]; rfl)) (g _ (vm_but_set h).1 (vm_but_set h).2)
theorem w_lst {i : Int32} {v : Int64} {a : Nat} {f : Nat → Int64} (e : vm_ent k pc = some (.lastore, x, y, z)) (h : vm_at vh n = some (.inl (1, a, .inr (.inl f)))) (ho : vm_out i a = false) (g : ∀ vh1, vm_but n vh vh1 → vm_at vh1 n = some (.inl (1, a, .inr (.inl (vp_updL f i.toNatClampNeg v)))) → vm_Wp d w k (pc + 1, ls, r) vh1 Post) : vm_Wp d w k (pc, ls, .long v :: .int i :: .ref n :: r) vh Post :=
  w_st ((vm_st_of e).trans (by simp only [vm_x, vm_lst, h, ho]; rfl)) (g _ (vm_but_set h).1 (vm_but_set h).2)
theorem w_len {t a : Nat} {g0 : (Nat → Int32) ⊕ (Nat → Int64) ⊕ (Nat → UInt32) ⊕ (Nat → UInt64) ⊕ (Nat → Option Nat)} (e : vm_ent k pc = some (.arraylength, x, y, z)) (h : vm_at vh n = some (.inl (t, a, g0))) (ht : t < 5) (g : vm_Wp d w k (pc + 1, ls, .int (Int32.ofNat a) :: r) vh Post) : vm_Wp d w k (pc, ls, .ref n :: r) vh Post :=
  w_x e (by simp only [vm_x, vm_len, h]; rw [if_pos ht]; rfl) g
theorem w_cl {j d1 w1 : Nat} {as : List Value} {fr fr1 : vm_F} {P1 : Option Value → vm_H → Prop} (hc : vm_cl k fr vh = some (j, as, fr1)) (hd : d1 + 1 ≤ d) (hw : 19 + vm_max j + w1 ≤ w) (hr : vm_Rp d1 w1 j as vh P1) (g : ∀ q vh1, P1 q vh1 → vm_Wp d w k (fr1.1, fr1.2.1, q.toList ++ fr1.2.2) vh1 Post) : vm_Wp d w k fr vh Post := by
  obtain ⟨frR, vh1, g1, q, hq, h1⟩ := hr
  obtain ⟨fr2, vh2, g2, h2⟩ := g q vh1 h1
  exact ⟨fr2, vh2, vm_Go.cl hc hd hw g1 hq g2, h2⟩
theorem w_cv {off j d1 w1 ci : Nat} {fs : List Value} {P1 : Option Value → vm_H → Prop} (e : vm_ent k pc = some (.invokevirtual off, j, 4, z)) (hdr : st.drop (vm_na j) = .ref n :: r) (h : vm_at vh n = some (.inr (ci, fs))) (hci : ci = vm_ci j) (hna : vm_na j ≤ st.length) (hsm : (r.map fun v => v.category).sum ≤ 8) (hln : (lg_sl (.ref n :: (st.take (vm_na j)).reverse)).length ≤ vm_max j) (hd : d1 + 1 ≤ d) (hw : 19 + vm_max j + w1 ≤ w) (hr : vm_Rp d1 w1 j (.ref n :: (st.take (vm_na j)).reverse) vh P1) (g : ∀ q vh1, P1 q vh1 → vm_Wp d w k (pc + 3, ls, q.toList ++ r) vh1 Post) : vm_Wp d w k (pc, ls, st) vh Post :=
  w_cl (fr1 := (pc + 3, ls, r)) (by unfold vm_cl; simp only [e, vm_cv, hdr, h]; rw [if_pos ⟨fun _ => hci, hna, hsm, hln⟩]) hd hw hr g
theorem w_cs {off j d1 w1 : Nat} {P1 : Option Value → vm_H → Prop} (e : vm_ent k pc = some (.invokestatic off, j, 1, z)) (hna : vm_na j ≤ st.length) (hsm : ((st.drop (vm_na j)).map fun v => v.category).sum ≤ 8) (hln : (lg_sl (st.take (vm_na j)).reverse).length ≤ vm_max j) (hd : d1 + 1 ≤ d) (hw : 19 + vm_max j + w1 ≤ w) (hr : vm_Rp d1 w1 j (st.take (vm_na j)).reverse vh P1) (g : ∀ q vh1, P1 q vh1 → vm_Wp d w k (pc + 3, ls, q.toList ++ st.drop (vm_na j)) vh1 Post) : vm_Wp d w k (pc, ls, st) vh Post :=
  w_cl (fr1 := (pc + 3, ls, st.drop (vm_na j))) (by unfold vm_cl; simp only [e, vm_cs]; rw [if_pos ⟨hna, hsm, hln⟩]) hd hw hr g
theorem w_cs3 {off j d1 w1 : Nat} {P1 : Option Value → vm_H → Prop} (e : vm_ent k pc = some (.invokestatic off, j, 3, z)) (hna : vm_na j ≤ st.length) (hsm : ((st.drop (vm_na j)).map fun v => v.category).sum ≤ 8) (hln : (lg_sl (st.take (vm_na j)).reverse).length ≤ vm_max j) (hd : d1 + 1 ≤ d) (hw : 19 + vm_max j + w1 ≤ w) (hr : vm_Rp d1 w1 j (st.take (vm_na j)).reverse vh P1) (g : ∀ q vh1, P1 q vh1 → vm_Wp d w k (pc + 3, ls, q.toList ++ st.drop (vm_na j)) vh1 Post) : vm_Wp d w k (pc, ls, st) vh Post :=
  w_cl (fr1 := (pc + 3, ls, st.drop (vm_na j))) (by unfold vm_cl; simp only [e, vm_cs]; rw [if_pos ⟨hna, hsm, hln⟩]) hd hw hr g
end VMWP
theorem w_ri {d w k pc x y z : Nat} {ls : vm_L} {v : Int32} {vh : vm_H} {P : Option Value → vm_H → Prop} (e : vm_ent k pc = some (.ireturn, x, y, z)) (hr : vm_ret k = some .int) (h : P (some (.int v)) vh) : vm_Wp d w k (pc, ls, [.int v]) vh (fun fr vh1 => ∃ r, vm_rt k fr = some r ∧ P r vh1) :=
  w_end ⟨some (.int v), by unfold vm_rt; simp only [e, hr], h⟩
theorem w_rz {d w k pc x y z : Nat} {ls : vm_L} {v : Int32} {vh : vm_H} {P : Option Value → vm_H → Prop} (e : vm_ent k pc = some (.ireturn, x, y, z)) (hr : vm_ret k = some .boolean) (hv : v = 0 ∨ v = 1) (h : P (some (.int v)) vh) : vm_Wp d w k (pc, ls, [.int v]) vh (fun fr vh1 => ∃ r, vm_rt k fr = some r ∧ P r vh1) :=
  w_end ⟨some (.int v), by unfold vm_rt; simp only [e, hr]; rw [if_pos hv], h⟩
theorem w_rl {d w k pc x y z : Nat} {ls : vm_L} {v : Int64} {vh : vm_H} {P : Option Value → vm_H → Prop} (e : vm_ent k pc = some (.lreturn, x, y, z)) (hr : vm_ret k = some .long) (h : P (some (.long v)) vh) : vm_Wp d w k (pc, ls, [.long v]) vh (fun fr vh1 => ∃ r, vm_rt k fr = some r ∧ P r vh1) :=
  w_end ⟨some (.long v), by unfold vm_rt; simp only [e, hr], h⟩
theorem w_ra {d w k pc x y z n : Nat} {nm : String} {ls : vm_L} {vh : vm_H} {P : Option Value → vm_H → Prop} (e : vm_ent k pc = some (.areturn, x, y, z)) (hr : vm_ret k = some (.object nm)) (h : P (some (.ref n)) vh) : vm_Wp d w k (pc, ls, [.ref n]) vh (fun fr vh1 => ∃ r, vm_rt k fr = some r ∧ P r vh1) :=
  w_end ⟨some (.ref n), by unfold vm_rt; simp only [e, hr], h⟩
theorem w_rn {d w k pc x y z : Nat} {nm : String} {ls : vm_L} {vh : vm_H} {P : Option Value → vm_H → Prop} (e : vm_ent k pc = some (.areturn, x, y, z)) (hr : vm_ret k = some (.object nm)) (h : P (some .null) vh) : vm_Wp d w k (pc, ls, [.null]) vh (fun fr vh1 => ∃ r, vm_rt k fr = some r ∧ P r vh1) :=
  w_end ⟨some .null, by unfold vm_rt; simp only [e, hr], h⟩
theorem w_rv {d w k pc x y z : Nat} {ls : vm_L} {vh : vm_H} {P : Option Value → vm_H → Prop} (e : vm_ent k pc = some (.return_, x, y, z)) (hr : vm_ret k = none) (h : P none vh) : vm_Wp d w k (pc, ls, []) vh (fun fr vh1 => ∃ r, vm_rt k fr = some r ∧ P r vh1) :=
  w_end ⟨none, by unfold vm_rt; simp only [e, hr], h⟩
