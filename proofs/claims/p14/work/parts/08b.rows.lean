section VQR
variable {d w k pc pc1 x y z n : Nat} {A A1 : vq_A} {st st1 r : List Value} {vh : vm_H} {Post : vq_Q}
theorem w_end (h : ∀ ls, vq_ag A ls → Post pc ls st vh) : vm_Wp d w k pc A st vh Post := fun ls hl => ⟨_, vh, vm_Go.rf, h ls hl⟩
theorem w_sub (hs : vq_le A1 A) (g : vm_Wp d w k pc A1 st vh Post) : vm_Wp d w k pc A st vh Post := fun ls h => g ls fun i v hv => h i v (vq_le_get _ _ hs i v hv)
theorem vm_st_of {i : Jvm.ClassFile.Instr} {ls : vm_L} (e : vm_ent k pc = some (i, x, y, z)) : vm_st k (pc, ls, st) vh = vm_x (vm_max k) i x y pc ls st vh := by
  unfold vm_st
  rw [e]
theorem w_st {i : Jvm.ClassFile.Instr} {vh1 : vm_H} (e : vm_ent k pc = some (i, x, y, z)) (h : ∀ ls, vq_ag A ls → ∃ ls1, vq_ag A1 ls1 ∧ vm_x (vm_max k) i x y pc ls st vh = some ((pc1, ls1, st1), vh1, 0, 0)) (g : vm_Wp d w k pc1 A1 st1 vh1 Post) : vm_Wp d w k pc A st vh Post := by
  intro ls hls
  obtain ⟨ls1, h1, h2⟩ := h ls hls
  obtain ⟨fr2, vh2, g1, g2⟩ := g ls1 h1
  exact ⟨fr2, vh2, vm_Go.st (o := (fr2, vh2, 0, 0)) ((vm_st_of e).trans h2) g1, g2⟩
theorem w_x {i : Jvm.ClassFile.Instr} (e : vm_ent k pc = some (i, x, y, z)) (h : ∀ ls, vm_x (vm_max k) i x y pc ls st vh = some ((pc1, ls, st1), vh, 0, 0)) (g : vm_Wp d w k pc1 A st1 vh Post) : vm_Wp d w k pc A st vh Post := w_st e (fun ls hl => ⟨ls, hl, h ls⟩) g
theorem w_xh {i : Jvm.ClassFile.Instr} {vh1 : vm_H} (e : vm_ent k pc = some (i, x, y, z)) (h : ∀ ls, vm_x (vm_max k) i x y pc ls st vh = some ((pc1, ls, st1), vh1, 0, 0)) (g : vm_Wp d w k pc1 A st1 vh1 Post) : vm_Wp d w k pc A st vh Post := w_st e (fun ls hl => ⟨ls, hl, h ls⟩) g
theorem w_ldI {i : Jvm.ClassFile.Instr} {j : Nat} {v : Int32} (e : vm_ent k pc = some (i, x, y, z)) (hx : ∀ ls, vm_x (vm_max k) i x y pc ls st vh = vm_loadI ls j pc1 st vh) (h : A[j]? = some (some (.int v))) (g : vm_Wp d w k pc1 A (.int v :: st) vh Post) : vm_Wp d w k pc A st vh Post :=
  w_st e (fun ls hl => ⟨ls, hl, by rw [hx, vm_loadI, hl j _ h]; rfl⟩) g
theorem w_ldL {i : Jvm.ClassFile.Instr} {j : Nat} {v : Int64} (e : vm_ent k pc = some (i, x, y, z)) (hx : ∀ ls, vm_x (vm_max k) i x y pc ls st vh = vm_loadL ls j pc1 st vh) (h : A[j]? = some (some (.long v))) (g : vm_Wp d w k pc1 A (.long v :: st) vh Post) : vm_Wp d w k pc A st vh Post :=
  w_st e (fun ls hl => ⟨ls, hl, by rw [hx, vm_loadL, hl j _ h]; rfl⟩) g
theorem w_ldA {i : Jvm.ClassFile.Instr} {j : Nat} {v : Nat} (e : vm_ent k pc = some (i, x, y, z)) (hx : ∀ ls, vm_x (vm_max k) i x y pc ls st vh = vm_loadA ls j pc1 st vh) (h : A[j]? = some (some (.ref v))) (g : vm_Wp d w k pc1 A (.ref v :: st) vh Post) : vm_Wp d w k pc A st vh Post :=
  w_st e (fun ls hl => ⟨ls, hl, by rw [hx, vm_loadA, hl j _ h]; rfl⟩) g
theorem w_ldN {i : Jvm.ClassFile.Instr} {j : Nat} (e : vm_ent k pc = some (i, x, y, z)) (hx : ∀ ls, vm_x (vm_max k) i x y pc ls st vh = vm_loadA ls j pc1 st vh) (h : A[j]? = some (some .null)) (g : vm_Wp d w k pc1 A (.null :: st) vh Post) : vm_Wp d w k pc A st vh Post :=
  w_st e (fun ls hl => ⟨ls, hl, by rw [hx, vm_loadA, hl j _ h]; rfl⟩) g
theorem w_stI {i : Jvm.ClassFile.Instr} {j : Nat} {v : Int32} (e : vm_ent k pc = some (i, x, y, z)) (hx : ∀ ls, vm_x (vm_max k) i x y pc ls (.int v :: r) vh = vm_storeI (vm_max k) ls j pc1 (.int v :: r) vh) (hj : j < vm_max k) (hA : vq_p1 A j (.int v) = A1) (g : vm_Wp d w k pc1 A1 r vh Post) : vm_Wp d w k pc A (.int v :: r) vh Post :=
  w_st e (fun ls hl => ⟨_, by rw [← hA]; exact vq_ag1 hl, by rw [hx, vm_storeI, if_pos hj]; rfl⟩) g
theorem w_stL {i : Jvm.ClassFile.Instr} {j : Nat} {v : Int64} (e : vm_ent k pc = some (i, x, y, z)) (hx : ∀ ls, vm_x (vm_max k) i x y pc ls (.long v :: r) vh = vm_storeL (vm_max k) ls j pc1 (.long v :: r) vh) (hj : j + 1 < vm_max k) (hA : vq_p2 A j (.long v) = A1) (g : vm_Wp d w k pc1 A1 r vh Post) : vm_Wp d w k pc A (.long v :: r) vh Post :=
  w_st e (fun ls hl => ⟨_, by rw [← hA]; exact vq_ag2 hl, by rw [hx, vm_storeL, if_pos hj]; rfl⟩) g
theorem w_stA {i : Jvm.ClassFile.Instr} {j : Nat} {v : Nat} (e : vm_ent k pc = some (i, x, y, z)) (hx : ∀ ls, vm_x (vm_max k) i x y pc ls (.ref v :: r) vh = vm_storeA (vm_max k) ls j pc1 (.ref v :: r) vh) (hj : j < vm_max k) (hA : vq_p1 A j (.ref v) = A1) (g : vm_Wp d w k pc1 A1 r vh Post) : vm_Wp d w k pc A (.ref v :: r) vh Post :=
  w_st e (fun ls hl => ⟨_, by rw [← hA]; exact vq_ag1 hl, by rw [hx, vm_storeA, if_pos hj]; rfl⟩) g
theorem w_stN {i : Jvm.ClassFile.Instr} {j : Nat} (e : vm_ent k pc = some (i, x, y, z)) (hx : ∀ ls, vm_x (vm_max k) i x y pc ls (.null :: r) vh = vm_storeA (vm_max k) ls j pc1 (.null :: r) vh) (hj : j < vm_max k) (hA : vq_p1 A j .null = A1) (g : vm_Wp d w k pc1 A1 r vh Post) : vm_Wp d w k pc A (.null :: r) vh Post :=
  w_st e (fun ls hl => ⟨_, by rw [← hA]; exact vq_ag1 hl, by rw [hx, vm_storeA, if_pos hj]; rfl⟩) g
theorem w_iinc {j : Nat} {q : Int} {a : Int} (e : vm_ent k pc = some (.iinc j q, x, y, z)) (h : A[j]? = some (some (.int (vz a)))) (hj : j < vm_max k) (hA : vq_p1 A j (.int (vz (a + q))) = A1) (g : vm_Wp d w k (pc + 3) A1 st vh Post) : vm_Wp d w k pc A st vh Post :=
  w_st e (fun ls hl => ⟨_, by rw [← hA]; exact vq_ag1 hl, by simp only [vm_x, hl j _ h]; rw [if_pos hj, show vz a + Int32.ofInt q = vz (a + q) from vz_add a q]; rfl⟩) g
theorem w_kI {q : Int} (e : vm_ent k pc = some (.iconst q, x, y, z)) (g : vm_Wp d w k (pc + 1) A (.int (vz q) :: st) vh Post) : vm_Wp d w k pc A st vh Post := w_x e (fun _ => rfl) g
theorem w_kB {q : Int} (e : vm_ent k pc = some (.bipush q, x, y, z)) (h : (Int8.ofInt q).toInt32 = vz q) (g : vm_Wp d w k (pc + 2) A (.int (vz q) :: st) vh Post) : vm_Wp d w k pc A st vh Post := w_x e (fun _ => by simp only [vm_x, h]; rfl) g
theorem w_kS {q : Int} (e : vm_ent k pc = some (.sipush q, x, y, z)) (h : (Int16.ofInt q).toInt32 = vz q) (g : vm_Wp d w k (pc + 3) A (.int (vz q) :: st) vh Post) : vm_Wp d w k pc A st vh Post := w_x e (fun _ => by simp only [vm_x, h]; rfl) g
theorem w_iadd {a b : Int} (e : vm_ent k pc = some (.iadd, x, y, z)) (g : vm_Wp d w k (pc + 1) A (.int (vz (a + b)) :: r) vh Post) : vm_Wp d w k pc A (.int (vz b) :: .int (vz a) :: r) vh Post := w_x e (fun _ => by rw [← vz_add]; rfl) g
theorem w_isub {a b : Int} (e : vm_ent k pc = some (.isub, x, y, z)) (g : vm_Wp d w k (pc + 1) A (.int (vz (a - b)) :: r) vh Post) : vm_Wp d w k pc A (.int (vz b) :: .int (vz a) :: r) vh Post := w_x e (fun _ => by rw [← vz_sub]; rfl) g
theorem w_imul {a b : Int} (e : vm_ent k pc = some (.imul, x, y, z)) (g : vm_Wp d w k (pc + 1) A (.int (vz (a * b)) :: r) vh Post) : vm_Wp d w k pc A (.int (vz b) :: .int (vz a) :: r) vh Post := w_x e (fun _ => by rw [← vz_mul]; rfl) g
/-- what comes of it is not told -/
theorem w_oI {i : Jvm.ClassFile.Instr} {v : Int32} (e : vm_ent k pc = some (i, x, y, z)) (h : ∀ ls, vm_x (vm_max k) i x y pc ls st vh = some ((pc1, ls, .int v :: st1), vh, 0, 0)) (g : ∀ q : Int, -2147483648 ≤ q ∧ q < 2147483648 → vm_Wp d w k pc1 A (.int (vz q) :: st1) vh Post) : vm_Wp d w k pc A st vh Post := by
  obtain ⟨q, rfl, hq⟩ := vz_ex v
  exact w_x e h (g q hq)
theorem w_oL {i : Jvm.ClassFile.Instr} {v : Int64} (e : vm_ent k pc = some (i, x, y, z)) (h : ∀ ls, vm_x (vm_max k) i x y pc ls st vh = some ((pc1, ls, .long v :: st1), vh, 0, 0)) (g : ∀ q : Int64, vm_Wp d w k pc1 A (.long q :: st1) vh Post) : vm_Wp d w k pc A st vh Post := w_x e h (g v)
theorem vz_and {a b : Int} (ha : -2147483648 ≤ a ∧ a < 2147483648) (hb : 0 ≤ b) (hb2 : b < 2147483648) : 0 ≤ (vz a &&& vz b).toInt ∧ (vz a &&& vz b).toInt ≤ b := by
  have e1 : (vz b).toInt = b := vz_toInt ⟨by omega, hb2⟩
  have hbb : (vz b).toBitVec.toNat = b.toNat := by
    have h1 : (vz b).toBitVec.toInt = b := e1
    have h2 : (vz b).toBitVec.toNat < 2 ^ 32 := (vz b).toBitVec.isLt
    rw [BitVec.toInt_eq_toNat_cond] at h1
    split at h1 <;> omega
  have h3 : (vz a &&& vz b).toBitVec.toNat ≤ b.toNat := by
    rw [Int32.toBitVec_and, BitVec.toNat_and, hbb]
    exact Nat.and_le_right
  have h4 : (vz a &&& vz b).toInt = (((vz a &&& vz b).toBitVec.toNat : Nat) : Int) := by
    show (vz a &&& vz b).toBitVec.toInt = _
    rw [BitVec.toInt_eq_toNat_cond, if_pos (by omega)]
  omega
theorem w_iand {a b : Int} (e : vm_ent k pc = some (.iand, x, y, z)) (ha : -2147483648 ≤ a ∧ a < 2147483648) (hb : 0 ≤ b ∧ b < 2147483648) (g : ∀ q : Int, 0 ≤ q ∧ q ≤ b → vm_Wp d w k (pc + 1) A (.int (vz q) :: r) vh Post) : vm_Wp d w k pc A (.int (vz b) :: .int (vz a) :: r) vh Post := by
  have h := vz_and ha hb.1 hb.2
  obtain ⟨q, hq⟩ : ∃ q : Int, q = (vz a &&& vz b).toInt := ⟨_, rfl⟩
  have e1 : vz a &&& vz b = vz q := by rw [hq]; exact (Int32.ofInt_toInt _).symm
  rw [← hq] at h
  exact w_x e (fun _ => by simp only [vm_x, vm_ii]; rw [e1]; rfl) (g q h)
theorem w_ior01 {a b : Int} (e : vm_ent k pc = some (.ior, x, y, z)) (ha : 0 ≤ a ∧ a ≤ 1) (hb : 0 ≤ b ∧ b ≤ 1) (g : ∀ q : Int, 0 ≤ q ∧ q ≤ 1 → vm_Wp d w k (pc + 1) A (.int (vz q) :: r) vh Post) : vm_Wp d w k pc A (.int (vz b) :: .int (vz a) :: r) vh Post := by
  have h1 : a = 0 ∨ a = 1 := by omega
  have h2 : b = 0 ∨ b = 1 := by omega
  rcases h1 with rfl | rfl <;> rcases h2 with rfl | rfl
  · exact w_x e (fun _ => rfl) (g 0 (by decide))
  · exact w_x e (fun _ => rfl) (g 1 (by decide))
  · exact w_x e (fun _ => rfl) (g 1 (by decide))
  · exact w_x e (fun _ => rfl) (g 1 (by decide))
theorem vz_cmp (a b : Int64) : ∃ q : Int, lg_cmp a b = vz q ∧ (-1 ≤ q ∧ q ≤ 1) ∧ (q = 0 ↔ a = b) ∧ (q < 0 ↔ a < b) := by
  unfold lg_cmp
  by_cases h1 : a = b
  · subst h1
    exact ⟨0, by simp [Int64.lt_irrefl]; rfl, by decide, by simp, by simp [Int64.lt_irrefl]⟩
  · by_cases h2 : a < b
    · have h3 : ¬ b < a := fun h => Int64.lt_irrefl (Int64.lt_trans h h2)
      exact ⟨-1, by simp [h1, h2, h3]; rfl, by decide, by simp [h1], by simp [h2]⟩
    · have h3 : b < a := Int64.lt_iff_le_and_ne.mpr ⟨Int64.not_lt.mp h2, fun h => h1 h.symm⟩
      exact ⟨1, by simp [h3]; rfl, by decide, by simp [h1], by simp [h2]⟩
theorem w_lcmp {a b : Int64} (e : vm_ent k pc = some (.lcmp, x, y, z)) (g : ∀ q : Int, -1 ≤ q ∧ q ≤ 1 → (q = 0 ↔ a = b) → (q < 0 ↔ a < b) → vm_Wp d w k (pc + 1) A (.int (vz q) :: r) vh Post) : vm_Wp d w k pc A (.long b :: .long a :: r) vh Post := by
  obtain ⟨q, h1, h2, h3, h4⟩ := vz_cmp a b
  exact w_x e (fun _ => by simp only [vm_x]; rw [h1]; rfl) (g q h2 h3 h4)
theorem w_if {cd : Jvm.ClassFile.Cond} {off a : Int} (e : vm_ent k pc = some (.ifCond cd off, x, y, z)) (ha : -2147483648 ≤ a ∧ a < 2147483648) (g1 : vq_c cd a 0 → vm_Wp d w k x A r vh Post) (g0 : vq_n cd a 0 → vm_Wp d w k (pc + 3) A r vh Post) : vm_Wp d w k pc A (.int (vz a) :: r) vh Post := by
  rcases vq_cn (cd := cd) ha (show -2147483648 ≤ (0 : Int) ∧ (0 : Int) < 2147483648 by decide) with ⟨h1, h2⟩ | ⟨h1, h2⟩
  · exact w_x e (fun _ => by simp only [vm_x]; rw [show (0 : Int32) = vz 0 from rfl, h1]; rfl) (g1 h2)
  · exact w_x e (fun _ => by simp only [vm_x]; rw [show (0 : Int32) = vz 0 from rfl, h1]; rfl) (g0 h2)
theorem w_ic {cd : Jvm.ClassFile.Cond} {off a b : Int} (e : vm_ent k pc = some (.if_icmp cd off, x, y, z)) (ha : -2147483648 ≤ a ∧ a < 2147483648) (hb : -2147483648 ≤ b ∧ b < 2147483648) (g1 : vq_c cd a b → vm_Wp d w k x A r vh Post) (g0 : vq_n cd a b → vm_Wp d w k (pc + 3) A r vh Post) : vm_Wp d w k pc A (.int (vz b) :: .int (vz a) :: r) vh Post := by
  rcases vq_cn (cd := cd) ha hb with ⟨h1, h2⟩ | ⟨h1, h2⟩
  · exact w_x e (fun _ => by simp only [vm_x]; rw [h1]; rfl) (g1 h2)
  · exact w_x e (fun _ => by simp only [vm_x]; rw [h1]; rfl) (g0 h2)
theorem w_acn {off : Int} {a b : Nat} (e : vm_ent k pc = some (.if_acmp .ne off, x, y, z)) (g1 : a ≠ b → vm_Wp d w k x A r vh Post) (g0 : a = b → vm_Wp d w k (pc + 3) A r vh Post) : vm_Wp d w k pc A (.ref b :: .ref a :: r) vh Post := by
  by_cases h : a = b
  · exact w_x e (fun _ => by simp only [vm_x, h, decide_true, Bool.not_true]; rfl) (g0 h)
  · exact w_x e (fun _ => by simp only [vm_x, h, decide_false, Bool.not_false]; rfl) (g1 h)
theorem w_swO {dt lo hi a : Int} {offs : Array Int} {t : Nat} (e : vm_ent k pc = some (.tableswitch dt lo hi offs, x, y, z)) (ha : -2147483648 ≤ a ∧ a < 2147483648) (h : a < lo ∨ hi < a) (ht : (pc : Int) + dt = (t : Int)) (g : vm_Wp d w k t A r vh Post) : vm_Wp d w k pc A (.int (vz a) :: r) vh Post :=
  w_x e (fun _ => by simp only [vm_x, vz_toInt ha, h, if_true, ht]; rw [if_pos (Int.natCast_nonneg t)]; rfl) g
theorem w_swI {dt lo hi a o : Int} {offs : Array Int} {t : Nat} (e : vm_ent k pc = some (.tableswitch dt lo hi offs, x, y, z)) (ha : -2147483648 ≤ a ∧ a < 2147483648) (h : ¬ (a < lo ∨ hi < a)) (ho : offs[(a - lo).toNat]? = some o) (ht : (pc : Int) + o = (t : Int)) (g : vm_Wp d w k t A r vh Post) : vm_Wp d w k pc A (.int (vz a) :: r) vh Post :=
  w_x e (fun _ => by simp only [vm_x, vz_toInt ha, h, if_false, ho, ht]; rw [if_pos (Int.natCast_nonneg t)]; rfl) g
theorem w_get {off : Nat} {fs : List Value} {v : Value} (e : vm_ent k pc = some (.getfield off, x, y, z)) (h : vm_at vh n = some (.inr (x, fs))) (hv : fs[y]? = some v) (g : vm_Wp d w k (pc + 3) A (v :: r) vh Post) : vm_Wp d w k pc A (.ref n :: r) vh Post :=
  w_x e (fun _ => by simp only [vm_x, vm_get, h, if_true, hv]; rfl) g
theorem vm_but_set {c0 c : va_E} (h : vm_at vh n = some c0) : vm_but n vh (vh.set n (some c)) ∧ vm_at (vh.set n (some c)) n = some c := ⟨⟨List.length_set, fun _ hm => vm_at_ne (Ne.symm hm)⟩, vm_at_eq h⟩
theorem w_put {off : Nat} {fs : List Value} {v : Value} (e : vm_ent k pc = some (.putfield off, x, y, z)) (h : vm_at vh n = some (.inr (x, fs))) (hy : y < fs.length) (hk : vm_okv (vm_tyF x y) v = true) (g : ∀ vh1, vm_but n vh vh1 → vm_at vh1 n = some (.inr (x, fs.set y v)) → vm_Wp d w k (pc + 3) A r vh1 Post) : vm_Wp d w k pc A (v :: .ref n :: r) vh Post :=
  w_xh e (fun _ => by simp only [vm_x, vm_put, h]; rw [if_pos ⟨trivial, hy, hk⟩]; rfl) (g _ (vm_but_set h).1 (vm_but_set h).2)
theorem w_ald {i : Int} {a : Nat} {f : Nat → Int32} (e : vm_ent k pc = some (.iaload, x, y, z)) (h : vm_at vh n = some (.inl (0, a, .inl f))) (h0 : 0 ≤ i) (h1 : i < (a : Int)) (hm : a ≤ 2147483648) (g : vm_Wp d w k (pc + 1) A (.int (f i.toNat) :: r) vh Post) : vm_Wp d w k pc A (.int (vz i) :: .ref n :: r) vh Post :=
  w_x e (fun _ => by simp only [vm_x, vm_ald, h, vz_out h0 h1 hm, vz_cl h0 (show i < 2147483648 by omega)]; rfl) g
theorem w_aldO {i : Int} {a : Nat} {f : Nat → Int32} (e : vm_ent k pc = some (.iaload, x, y, z)) (h : vm_at vh n = some (.inl (0, a, .inl f))) (h0 : 0 ≤ i) (h1 : i < (a : Int)) (hm : a ≤ 2147483648) (g : ∀ q : Int, -2147483648 ≤ q ∧ q < 2147483648 → f i.toNat = vz q → vm_Wp d w k (pc + 1) A (.int (vz q) :: r) vh Post) : vm_Wp d w k pc A (.int (vz i) :: .ref n :: r) vh Post := by
  obtain ⟨q, e1, hq⟩ := vz_ex (f i.toNat)
  exact w_ald e h h0 h1 hm (by rw [e1]; exact g q hq e1)
theorem w_zldO {i : Int} {a : Nat} {f : Nat → Int32} (e : vm_ent k pc = some (.baload, x, y, z)) (h : vm_at vh n = some (.inl (2, a, .inl f))) (h0 : 0 ≤ i) (h1 : i < (a : Int)) (hm : a ≤ 2147483648) (g : ∀ q : Int, -2147483648 ≤ q ∧ q < 2147483648 → f i.toNat = vz q → vm_Wp d w k (pc + 1) A (.int (vz q) :: r) vh Post) : vm_Wp d w k pc A (.int (vz i) :: .ref n :: r) vh Post := by
  obtain ⟨q, e1, hq⟩ := vz_ex (f i.toNat)
  exact w_x e (fun _ => by simp only [vm_x, vm_zld, h, vz_out h0 h1 hm, vz_cl h0 (show i < 2147483648 by omega)]; rw [e1]; rfl) (g q hq e1)
theorem w_lld {i : Int} {a : Nat} {f : Nat → Int64} (e : vm_ent k pc = some (.laload, x, y, z)) (h : vm_at vh n = some (.inl (1, a, .inr (.inl f)))) (h0 : 0 ≤ i) (h1 : i < (a : Int)) (hm : a ≤ 2147483648) (g : vm_Wp d w k (pc + 1) A (.long (f i.toNat) :: r) vh Post) : vm_Wp d w k pc A (.int (vz i) :: .ref n :: r) vh Post :=
  w_x e (fun _ => by simp only [vm_x, vm_lld, h, vz_out h0 h1 hm, vz_cl h0 (show i < 2147483648 by omega)]; rfl) g
theorem w_lldO {i : Int} {a : Nat} {f : Nat → Int64} (e : vm_ent k pc = some (.laload, x, y, z)) (h : vm_at vh n = some (.inl (1, a, .inr (.inl f)))) (h0 : 0 ≤ i) (h1 : i < (a : Int)) (hm : a ≤ 2147483648) (g : ∀ q : Int64, vm_Wp d w k (pc + 1) A (.long q :: r) vh Post) : vm_Wp d w k pc A (.int (vz i) :: .ref n :: r) vh Post := w_lld e h h0 h1 hm (g _)
theorem w_qld {i : Int} {t a b : Nat} {f : Nat → Option Nat} (e : vm_ent k pc = some (.aaload, x, y, z)) (h : vm_at vh n = some (.inl (t, a, .inr (.inr (.inr (.inr f)))))) (ht : t = 3 ∨ t = 4) (h0 : 0 ≤ i) (h1 : i < (a : Int)) (hm : a ≤ 2147483648) (hf : f i.toNat = some b) (g : vm_Wp d w k (pc + 1) A (.ref b :: r) vh Post) : vm_Wp d w k pc A (.int (vz i) :: .ref n :: r) vh Post :=
  w_x e (fun _ => by
    have h2 : (vm_out (vz i) a || decide (t < 3) || decide (5 ≤ t)) = false := by rcases ht with rfl | rfl <;> simp [vz_out h0 h1 hm]
    simp only [vm_x, vm_qld, h, h2, vz_cl h0 (show i < 2147483648 by omega), hf]
    rfl) g
theorem w_ast {i : Int} {v : Int32} {a : Nat} {f : Nat → Int32} (e : vm_ent k pc = some (.iastore, x, y, z)) (h : vm_at vh n = some (.inl (0, a, .inl f))) (h0 : 0 ≤ i) (h1 : i < (a : Int)) (hm : a ≤ 2147483648) (hn : n ≠ 0) (g : ∀ vh1, vm_but n vh vh1 → vm_at vh1 n = some (.inl (0, a, .inl (upd f i.toNat v))) → vm_Wp d w k (pc + 1) A r vh1 Post) : vm_Wp d w k pc A (.int v :: .int (vz i) :: .ref n :: r) vh Post :=
  w_xh e (fun _ => by simp only [vm_x, vm_ast, h, vz_out h0 h1 hm, hn, decide_false, Bool.or_false, vz_cl h0 (show i < 2147483648 by omega)]; rfl) (g _ (vm_but_set h).1 (vm_but_set h).2)
theorem w_zst {i : Int} {v : Int32} {a : Nat} {f : Nat → Int32} (e : vm_ent k pc = some (.bastore, x, y, z)) (h : vm_at vh n = some (.inl (2, a, .inl f))) (h0 : 0 ≤ i) (h1 : i < (a : Int)) (hm : a ≤ 2147483648) (g : ∀ vh1, vm_but n vh vh1 → vm_at vh1 n = some (.inl (2, a, .inl (upd f i.toNat (v &&& 1)))) → vm_Wp d w k (pc + 1) A r vh1 Post) : vm_Wp d w k pc A (.int v :: .int (vz i) :: .ref n :: r) vh Post :=
  w_xh e (fun _ => by simp only [vm_x, vm_zst, h, vz_out h0 h1 hm, vz_cl h0 (show i < 2147483648 by omega)]; rfl) (g _ (vm_but_set h).1 (vm_but_set h).2)
theorem w_lst {i : Int} {v : Int64} {a : Nat} {f : Nat → Int64} (e : vm_ent k pc = some (.lastore, x, y, z)) (h : vm_at vh n = some (.inl (1, a, .inr (.inl f)))) (h0 : 0 ≤ i) (h1 : i < (a : Int)) (hm : a ≤ 2147483648) (g : ∀ vh1, vm_but n vh vh1 → vm_at vh1 n = some (.inl (1, a, .inr (.inl (vp_updL f i.toNat v)))) → vm_Wp d w k (pc + 1) A r vh1 Post) : vm_Wp d w k pc A (.long v :: .int (vz i) :: .ref n :: r) vh Post :=
  w_xh e (fun _ => by simp only [vm_x, vm_lst, h, vz_out h0 h1 hm, vz_cl h0 (show i < 2147483648 by omega)]; rfl) (g _ (vm_but_set h).1 (vm_but_set h).2)
theorem w_qst {i : Int} {t a b ci : Nat} {fs : List Value} {f : Nat → Option Nat} (e : vm_ent k pc = some (.aastore, x, y, z)) (h : vm_at vh n = some (.inl (t, a, .inr (.inr (.inr (.inr f)))))) (hb : vm_at vh b = some (.inr (ci, fs))) (hk : vm_aok t ci = true) (h0 : 0 ≤ i) (h1 : i < (a : Int)) (hm : a ≤ 2147483648) (g : ∀ vh1, vm_but n vh vh1 → vm_at vh1 n = some (.inl (t, a, .inr (.inr (.inr (.inr (va_up f i.toNat (some b))))))) → vm_Wp d w k (pc + 1) A r vh1 Post) : vm_Wp d w k pc A (.ref b :: .int (vz i) :: .ref n :: r) vh Post :=
  w_xh e (fun _ => by simp only [vm_x, vm_qst, h, hb, hk, vz_out h0 h1 hm, vz_cl h0 (show i < 2147483648 by omega)]; rfl) (g _ (vm_but_set h).1 (vm_but_set h).2)
theorem w_len {t a : Nat} {g0 : (Nat → Int32) ⊕ (Nat → Int64) ⊕ (Nat → UInt32) ⊕ (Nat → UInt64) ⊕ (Nat → Option Nat)} (e : vm_ent k pc = some (.arraylength, x, y, z)) (h : vm_at vh n = some (.inl (t, a, g0))) (ht : t < 5) (g : vm_Wp d w k (pc + 1) A (.int (vz (a : Int)) :: r) vh Post) : vm_Wp d w k pc A (.ref n :: r) vh Post :=
  w_x e (fun _ => by simp only [vm_x, vm_len, h]; rw [if_pos ht, show vz (a : Int) = Int32.ofNat a from Int32.ofInt_eq_ofNat]; rfl) g
theorem w_div {a b : Int64} (e : vm_ent k pc = some (.ldiv, x, y, z)) (hb : ¬ b = 0) (g : vm_Wp d w k (pc + 1) A (.long (a / b) :: r) vh Post) : vm_Wp d w k pc A (.long b :: .long a :: r) vh Post := w_x e (fun _ => by simp only [vm_x]; rw [if_neg hb]; rfl) g
theorem w_rem {a b : Int64} (e : vm_ent k pc = some (.lrem, x, y, z)) (hb : ¬ b = 0) (g : vm_Wp d w k (pc + 1) A (.long (a - a / b * b) :: r) vh Post) : vm_Wp d w k pc A (.long b :: .long a :: r) vh Post := w_x e (fun _ => by simp only [vm_x]; rw [if_neg hb]; rfl) g
theorem w_in {j m : Nat} {as : List Value} {P : Option Value → vm_H → Prop} (g : vm_Wp d w j 0 (vq_ps as ++ List.replicate m none) [] vh (vq_P j P)) : vm_Rp d w j as vh P := by
  obtain ⟨fr2, vh2, g1, q, hq, h1⟩ := g (lv_args 0 as) (fun i v hv => by have h := vq_ps_ag as 0 i v (vq_app hv); rwa [Nat.zero_add] at h)
  exact ⟨fr2, vh2, q, g1, hq, h1⟩
theorem w_cl {j d1 w1 : Nat} {as : List Value} {P1 : Option Value → vm_H → Prop} (hc : ∀ ls, vm_cl k (pc, ls, st) vh = some (j, as, (pc1, ls, st1))) (hd : d1 + 1 ≤ d) (hw : 19 + vm_max j + w1 ≤ w) (hr : vm_Rp d1 w1 j as vh P1) (g : ∀ q vh1, P1 q vh1 → vm_Wp d w k pc1 A (q.toList ++ st1) vh1 Post) : vm_Wp d w k pc A st vh Post := by
  intro ls hl
  obtain ⟨frR, vh1, q, g1, hq, h1⟩ := hr
  obtain ⟨fr2, vh2, g2, h2⟩ := g q vh1 h1 ls hl
  exact ⟨fr2, vh2, vm_Go.cl (hc ls) hd hw g1 hq g2, h2⟩
theorem w_cv {off j d1 w1 ci : Nat} {fs : List Value} {P1 : Option Value → vm_H → Prop} (e : vm_ent k pc = some (.invokevirtual off, j, y, z)) (hy : y = 4 ∨ y = 5) (hdr : st.drop (vm_na j) = .ref n :: r) (h : vm_at vh n = some (.inr (ci, fs))) (hci : ci = vm_ci j) (hna : vm_na j ≤ st.length) (hsm : (r.map fun v => v.category).sum ≤ 8) (hln : (lg_sl (.ref n :: (st.take (vm_na j)).reverse)).length ≤ vm_max j) (hd : d1 + 1 ≤ d) (hw : 19 + vm_max j + w1 ≤ w) (hr : vm_Rp d1 w1 j (.ref n :: (st.take (vm_na j)).reverse) vh P1) (g : ∀ q vh1, P1 q vh1 → vm_Wp d w k (pc + 3) A (q.toList ++ r) vh1 Post) : vm_Wp d w k pc A st vh Post :=
  w_cl (fun ls => by rcases hy with rfl | rfl <;> (unfold vm_cl; simp only [e, vm_cv, hdr, h]; rw [if_pos ⟨fun _ => hci, hna, hsm, hln⟩])) hd hw hr g
theorem w_ci {off j d1 w1 ci : Nat} {fs : List Value} {P1 : Option Value → vm_H → Prop} (e : vm_ent k pc = some (.invokespecial off, j, y, z)) (hy : y = 6 ∨ y = 7) (hdr : st.drop (vm_na j) = .ref n :: r) (h : vm_at vh n = some (.inr (ci, fs))) (hna : vm_na j ≤ st.length) (hsm : (r.map fun v => v.category).sum ≤ 8) (hln : (lg_sl (.ref n :: (st.take (vm_na j)).reverse)).length ≤ vm_max j) (hd : d1 + 1 ≤ d) (hw : 19 + vm_max j + w1 ≤ w) (hr : vm_Rp d1 w1 j (.ref n :: (st.take (vm_na j)).reverse) vh P1) (g : ∀ q vh1, P1 q vh1 → vm_Wp d w k (pc + 3) A (q.toList ++ r) vh1 Post) : vm_Wp d w k pc A st vh Post :=
  w_cl (fun ls => by rcases hy with rfl | rfl <;> (unfold vm_cl; simp only [e, vm_cv, hdr, h]; rw [if_pos ⟨fun q => (by cases q), hna, hsm, hln⟩])) hd hw hr g
theorem w_cs {off j d1 w1 : Nat} {P1 : Option Value → vm_H → Prop} (e : vm_ent k pc = some (.invokestatic off, j, y, z)) (hy : y = 1 ∨ y = 3) (hna : vm_na j ≤ st.length) (hsm : ((st.drop (vm_na j)).map fun v => v.category).sum ≤ 8) (hln : (lg_sl (st.take (vm_na j)).reverse).length ≤ vm_max j) (hd : d1 + 1 ≤ d) (hw : 19 + vm_max j + w1 ≤ w) (hr : vm_Rp d1 w1 j (st.take (vm_na j)).reverse vh P1) (g : ∀ q vh1, P1 q vh1 → vm_Wp d w k (pc + 3) A (q.toList ++ st.drop (vm_na j)) vh1 Post) : vm_Wp d w k pc A st vh Post :=
  w_cl (fun ls => by rcases hy with rfl | rfl <;> (unfold vm_cl; simp only [e, vm_cs]; rw [if_pos ⟨hna, hsm, hln⟩])) hd hw hr g
theorem w_nt {vh1 : vm_H} (h : ∀ ls, vm_nt k (pc, ls, st) vh = some ((pc1, ls, st1), vh1)) (hd : 1 ≤ d) (hw : 30 ≤ w) (g : vm_Wp d w k pc1 A st1 vh1 Post) : vm_Wp d w k pc A st vh Post := by
  intro ls hl
  obtain ⟨fr2, vh2, g2, h2⟩ := g ls hl
  exact ⟨fr2, vh2, vm_Go.nt (h ls) hd hw g2, h2⟩
theorem w_max {a b : Int} {o : Nat} (e : vm_ent k pc = some (.invokestatic o, x, 10, z)) (ha : -2147483648 ≤ a ∧ a < 2147483648) (hb : -2147483648 ≤ b ∧ b < 2147483648) (hsm : (r.map fun v => v.category).sum ≤ 8) (hd : 1 ≤ d) (hw : 30 ≤ w) (g : ∀ q : Int, (q = a ∨ q = b) ∧ a ≤ q ∧ b ≤ q → vm_Wp d w k (pc + 3) A (.int (vz q) :: r) vh Post) : vm_Wp d w k pc A (.int (vz b) :: .int (vz a) :: r) vh Post := by
  by_cases h : a < b
  · exact w_nt (fun ls => by unfold vm_nt; simp only [e]; rw [if_pos hsm, if_pos ((vz_lt ha hb).mpr h)]) hd hw (g b (by omega))
  · exact w_nt (fun ls => by unfold vm_nt; simp only [e]; rw [if_pos hsm, if_neg (fun q => h ((vz_lt ha hb).mp q))]) hd hw (g a (by omega))
theorem w_min {a b : Int} {o : Nat} (e : vm_ent k pc = some (.invokestatic o, x, 11, z)) (ha : -2147483648 ≤ a ∧ a < 2147483648) (hb : -2147483648 ≤ b ∧ b < 2147483648) (hsm : (r.map fun v => v.category).sum ≤ 8) (hd : 1 ≤ d) (hw : 30 ≤ w) (g : ∀ q : Int, (q = a ∨ q = b) ∧ q ≤ a ∧ q ≤ b → vm_Wp d w k (pc + 3) A (.int (vz q) :: r) vh Post) : vm_Wp d w k pc A (.int (vz b) :: .int (vz a) :: r) vh Post := by
  by_cases h : b < a
  · exact w_nt (fun ls => by unfold vm_nt; simp only [e]; rw [if_pos hsm, if_pos ((vz_lt hb ha).mpr h)]) hd hw (g b (by omega))
  · exact w_nt (fun ls => by unfold vm_nt; simp only [e]; rw [if_pos hsm, if_neg (fun q => h ((vz_lt hb ha).mp q))]) hd hw (g a (by omega))
theorem w_labs {v : Int64} {o : Nat} (e : vm_ent k pc = some (.invokestatic o, x, 12, z)) (hsm : (r.map fun v => v.category).sum ≤ 8) (hd : 1 ≤ d) (hw : 30 ≤ w) (g : ∀ q : Int64, vm_Wp d w k (pc + 3) A (.long q :: r) vh Post) : vm_Wp d w k pc A (.long v :: r) vh Post :=
  w_nt (fun ls => by unfold vm_nt; simp only [e]; rw [if_pos hsm]) hd hw (g _)
theorem w_acL {np dp sp : Int} {o a a0 n0 n1 : Nat} {f g0 : Nat → Int64} (e : vm_ent k pc = some (.invokestatic o, x, 9, z)) (h0 : vm_at vh a0 = some (.inl (1, n0, .inr (.inl f)))) (h1 : vm_at vh a = some (.inl (1, n1, .inr (.inl g0)))) (hs : 0 ≤ sp) (hdp : 0 ≤ dp) (hn : 0 ≤ np) (hsn : sp + np ≤ (n0 : Int)) (hdn : dp + np ≤ (n1 : Int)) (hm0 : n0 < 2147483648) (hm1 : n1 < 2147483648) (hsm : (r.map fun v => v.category).sum ≤ 8) (hd : 1 ≤ d) (hw : 30 ≤ w)
    (g : ∀ vh1, vm_but a vh vh1 → vm_at vh1 a = some (.inl (1, n1, .inr (.inl (va_cpy f g0 sp.toNat dp.toNat np.toNat)))) → vm_Wp d w k (pc + 3) A r vh1 Post) : vm_Wp d w k pc A (.int (vz np) :: .int (vz dp) :: .ref a :: .int (vz sp) :: .ref a0 :: r) vh Post := by
  have e1 := vz_cl hs (show sp < 2147483648 by omega)
  have e2 := vz_cl hdp (show dp < 2147483648 by omega)
  have e3 := vz_cl hn (show np < 2147483648 by omega)
  have hh : vm_acp (vz np) (vz dp) a (vz sp) a0 vh = some (vh.set a (some (.inl (1, n1, .inr (.inl (va_cpy f g0 sp.toNat dp.toNat np.toNat)))))) := by
    unfold vm_acp
    rw [h0, h1]
    show (if _ then _ else _) = _
    rw [e1, e2, e3, if_pos ⟨vz_neg hs (by omega), vz_neg hdp (by omega), vz_neg hn (by omega), by omega, by omega⟩]
  exact w_nt (fun ls => by unfold vm_nt; simp only [e, hh]; rw [if_pos hsm]) hd hw (g _ (vm_but_set h1).1 (vm_but_set h1).2)
theorem w_acI {np dp sp : Int} {o a a0 n0 n1 : Nat} {f g0 : Nat → Int32} (e : vm_ent k pc = some (.invokestatic o, x, 9, z)) (h0 : vm_at vh a0 = some (.inl (0, n0, .inl f))) (h1 : vm_at vh a = some (.inl (0, n1, .inl g0))) (hz : a0 ≠ 0 ∧ a ≠ 0) (hs : 0 ≤ sp) (hdp : 0 ≤ dp) (hn : 0 ≤ np) (hsn : sp + np ≤ (n0 : Int)) (hdn : dp + np ≤ (n1 : Int)) (hm0 : n0 < 2147483648) (hm1 : n1 < 2147483648) (hsm : (r.map fun v => v.category).sum ≤ 8) (hd : 1 ≤ d) (hw : 30 ≤ w)
    (g : ∀ vh1, vm_but a vh vh1 → vm_at vh1 a = some (.inl (0, n1, .inl (va_cpy f g0 sp.toNat dp.toNat np.toNat))) → vm_Wp d w k (pc + 3) A r vh1 Post) : vm_Wp d w k pc A (.int (vz np) :: .int (vz dp) :: .ref a :: .int (vz sp) :: .ref a0 :: r) vh Post := by
  have e1 := vz_cl hs (show sp < 2147483648 by omega)
  have e2 := vz_cl hdp (show dp < 2147483648 by omega)
  have e3 := vz_cl hn (show np < 2147483648 by omega)
  have hh : vm_acp (vz np) (vz dp) a (vz sp) a0 vh = some (vh.set a (some (.inl (0, n1, .inl (va_cpy f g0 sp.toNat dp.toNat np.toNat))))) := by
    unfold vm_acp
    rw [h0, h1]
    show (if _ then _ else _) = _
    rw [e1, e2, e3, if_pos ⟨hz, vz_neg hs (by omega), vz_neg hdp (by omega), vz_neg hn (by omega), by omega, by omega⟩]
  exact w_nt (fun ls => by unfold vm_nt; simp only [e, hh]; rw [if_pos hsm]) hd hw (g _ (vm_but_set h1).1 (vm_but_set h1).2)
variable {P : Option Value → vm_H → Prop}
theorem w_ri {v : Int32} (e : vm_ent k pc = some (.ireturn, x, y, z)) (hr : vm_ret k = some .int) (h : P (some (.int v)) vh) : vm_Wp d w k pc A [.int v] vh (vq_P k P) :=
  w_end fun _ _ => ⟨some (.int v), by unfold vm_rt; simp only [e, hr], h⟩
theorem w_rz {a : Int} (e : vm_ent k pc = some (.ireturn, x, y, z)) (hr : vm_ret k = some .boolean) (hv : 0 ≤ a ∧ a ≤ 1) (h : P (some (.int (vz a))) vh) : vm_Wp d w k pc A [.int (vz a)] vh (vq_P k P) :=
  w_end fun _ _ => ⟨some (.int (vz a)), by unfold vm_rt; simp only [e, hr]; rw [if_pos (vz_01 hv.1 hv.2)], h⟩
theorem w_rl {v : Int64} (e : vm_ent k pc = some (.lreturn, x, y, z)) (hr : vm_ret k = some .long) (h : P (some (.long v)) vh) : vm_Wp d w k pc A [.long v] vh (vq_P k P) :=
  w_end fun _ _ => ⟨some (.long v), by unfold vm_rt; simp only [e, hr], h⟩
theorem w_ra {nm : String} {a : Nat} (e : vm_ent k pc = some (.areturn, x, y, z)) (hr : vm_ret k = some (.object nm)) (h : P (some (.ref a)) vh) : vm_Wp d w k pc A [.ref a] vh (vq_P k P) :=
  w_end fun _ _ => ⟨some (.ref a), by unfold vm_rt; simp only [e, hr], h⟩
theorem w_rn {nm : String} (e : vm_ent k pc = some (.areturn, x, y, z)) (hr : vm_ret k = some (.object nm)) (h : P (some .null) vh) : vm_Wp d w k pc A [.null] vh (vq_P k P) :=
  w_end fun _ _ => ⟨some .null, by unfold vm_rt; simp only [e, hr], h⟩
theorem w_rv (e : vm_ent k pc = some (.return_, x, y, z)) (hr : vm_ret k = none) (h : P none vh) : vm_Wp d w k pc A [] vh (vq_P k P) :=
  w_end fun _ _ => ⟨none, by unfold vm_rt; simp only [e, hr], h⟩
theorem vm_Rp.imp {j : Nat} {as : List Value} {P1 P2 : Option Value → vm_H → Prop} (h : vm_Rp d w j as vh P1) (hi : ∀ q vh1, P1 q vh1 → P2 q vh1) : vm_Rp d w j as vh P2 := by
  obtain ⟨fr2, vh2, q, h1, h2, h3⟩ := h
  exact ⟨fr2, vh2, q, h1, h2, hi q vh2 h3⟩
end VQR
