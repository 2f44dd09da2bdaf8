theorem c74x {vh : vm_H} {l_0 : Int64} : vm_Rp 0 0 74 [.long l_0] vh (fun r v1 => vh = v1 ∧ ∃ q : Int, ((0 ≤ q ∧ q ≤ 1) ∧ (q = 1 ↔ (-67108864 ≤ l_0.toInt ∧ l_0.toInt ≤ 67108864))) ∧ r = some (.int (vz q))) := by
  have k1 : (Int64.ofNat 18446744073642442752).toInt = -67108864 := rfl
  have k2 : (Int64.ofNat 67108864).toInt = 67108864 := rfl
  refine w_in (m := 0) ?_
  show vm_Wp _ _ _ 0 [some (.long l_0), none] [] _ _
  refine w_ldL e74_0 (fun _ => rfl) rfl ?_
  refine w_x e74_1 (fun _ => rfl) ?_
  refine w_lcmp e74_4 (fun q1 h1 a1 b1 => ?_)
  have c1 : (q1 = 0 ↔ l_0.toInt = (Int64.ofNat 18446744073642442752).toInt) ∧ (q1 < 0 ↔ l_0.toInt < (Int64.ofNat 18446744073642442752).toInt) := lc_i a1 b1
  refine w_if e74_5 (by omega) (fun (h : q1 < 0) => ?_) (fun (h : 0 ≤ q1) => ?_)
  · refine w_kI e74_20 ?_
    exact w_rz e74_21 rfl (by omega) ⟨rfl, 0, by omega, rfl⟩
  · refine w_ldL e74_8 (fun _ => rfl) rfl ?_
    refine w_x e74_9 (fun _ => rfl) ?_
    refine w_lcmp e74_12 (fun q2 h2 a2 b2 => ?_)
    have c2 : (q2 = 0 ↔ l_0.toInt = (Int64.ofNat 67108864).toInt) ∧ (q2 < 0 ↔ l_0.toInt < (Int64.ofNat 67108864).toInt) := lc_i a2 b2
    refine w_if e74_13 (by omega) (fun (h3 : 0 < q2) => ?_) (fun (h3 : q2 ≤ 0) => ?_)
    · refine w_kI e74_20 ?_
      exact w_rz e74_21 rfl (by omega) ⟨rfl, 0, by omega, rfl⟩
    · refine w_kI e74_16 ?_
      refine w_x e74_17 (fun _ => rfl) ?_
      exact w_rz e74_21 rfl (by omega) ⟨rfl, 1, by omega, rfl⟩
theorem c73x {vh : vm_H} {l_0 : Int64} {i1 : Int} : vm_Rp 0 0 73 [.long l_0, .int (vz i1)] vh (fun r v1 => vh = v1 ∧ r = some (.int (vz (pw l_0 i1)))) := by
  refine w_in (m := 0) ?_
  show vm_Wp _ _ _ 0 [some (.long l_0), none, some (.int (vz i1))] [] _ _
  refine w_ldL e73_0 (fun _ => rfl) rfl ?_
  refine w_kB e73_1 rfl ?_
  refine w_ldI e73_3 (fun _ => rfl) rfl ?_
  refine w_imul e73_4 ?_
  refine w_x e73_5 (fun _ => rfl) ?_
  refine w_x e73_6 (fun _ => rfl) ?_
  refine w_kS e73_7 rfl ?_
  refine w_x e73_10 (fun _ => rfl) ?_
  exact w_ri e73_11 rfl ⟨rfl, by rw [← pw_vz]; rfl⟩
/-! What add does. -/
def vr (v : Int64) : Prop := -134217728 ≤ v.toInt ∧ v.toInt ≤ 134217728
def sr (v : Int64) : Prop := -67108864 ≤ v.toInt ∧ v.toInt ≤ 67108864
def adt (n : Int) (K : Nat → Int64) (key : Int64) (t : Int) : Prop := (0 ≤ t ∧ t ≤ n) ∧ (∀ j : Nat, (j : Int) < t → key.toInt < (K j).toInt) ∧ (t < n → (K t.toNat).toInt ≤ key.toInt)
def adr (n : Int) (K F : Nat → Int64) (key v : Int64) (q n1 : Int) (K1 F1 : Nat → Int64) (t : Int) : Prop :=
  (q = 0 ∧ n1 = n ∧ K1 = K ∧ F1 = F ∧ ¬ vr v) ∨ (vr v ∧ adt n K key t ∧
    ((q = 0 ∧ n1 = n ∧ K1 = K ∧ F1 = F ∧ (((t < n ∧ K t.toNat = key) ∧ ¬ sr (F t.toNat + v)) ∨ (¬ (t < n ∧ K t.toNat = key) ∧ (¬ sr v ∨ 60 ≤ n)))) ∨
     (q = 1 ∧ ¬ (t < n ∧ K t.toNat = key) ∧ sr v ∧ n < 60 ∧ n1 = n + 1 ∧ K1 = vp_updL (va_cpy K K t.toNat (t + 1).toNat (n - t).toNat) t.toNat key ∧ F1 = vp_updL (va_cpy F F t.toNat (t + 1).toNat (n - t).toNat) t.toNat v) ∨
     (q = 1 ∧ (t < n ∧ K t.toNat = key) ∧ sr (F t.toNat + v) ∧ (F t.toNat + v).toInt ≠ 0 ∧ n1 = n ∧ K1 = K ∧ F1 = vp_updL F t.toNat (F t.toNat + v)) ∨
     (q = 1 ∧ (t < n ∧ K t.toNat = key) ∧ (F t.toNat + v).toInt = 0 ∧ n1 = n - 1 ∧ K1 = va_cpy K K (t + 1).toNat t.toNat (n - t - 1).toNat ∧ F1 = va_cpy (vp_updL F t.toNat (F t.toNat + v)) (vp_updL F t.toNat (F t.toNat + v)) (t + 1).toNat t.toNat (n - t - 1).toNat)))
