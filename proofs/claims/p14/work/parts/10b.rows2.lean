section VQS
variable {d w k pc x y z n : Nat} {A : vq_A} {st r : List Value} {vh : vm_H} {Post : vq_Q}
theorem w_aldF {i lo hi : Int} {a : Nat} {f : Nat → Int} (e : vm_ent k pc = some (.iaload, x, y, z)) (h : vm_at vh n = some (.inl (0, a, .inl (fun j => vz (f j))))) (h0 : 0 ≤ i) (h1 : i < (a : Int)) (hm : a ≤ 2147483648) (hf : ∀ j, lo ≤ f j ∧ f j < hi) (g : ∀ q : Int, lo ≤ q ∧ q < hi → vm_Wp d w k (pc + 1) A (.int (vz q) :: r) vh Post) : vm_Wp d w k pc A (.int (vz i) :: .ref n :: r) vh Post := w_ald e h h0 h1 hm (g _ (hf _))
theorem w_divO {a b : Int64} (e : vm_ent k pc = some (.ldiv, x, y, z)) (hb : ¬ b = 0) (g : ∀ q : Int64, vm_Wp d w k (pc + 1) A (.long q :: r) vh Post) : vm_Wp d w k pc A (.long b :: .long a :: r) vh Post := w_div e hb (g _)
theorem w_remO {a b : Int64} (e : vm_ent k pc = some (.lrem, x, y, z)) (hb : ¬ b = 0) (g : ∀ q : Int64, vm_Wp d w k (pc + 1) A (.long q :: r) vh Post) : vm_Wp d w k pc A (.long b :: .long a :: r) vh Post := w_rem e hb (g _)
end VQS
theorem ty_ne {a b s t : Nat} (h1 : ty a = s) (h2 : ty b = t) (h : s ≠ t) : a ≠ b := fun e => h (by rw [← h1, ← h2, e])
