/-! The same sums on both sides. -/
theorem ls_nd {α : Type} {g : Nat → α} : ∀ n : Nat, (∀ i j, i < j → j < n → g i ≠ g j) → (ls g n).Nodup := by
  intro n
  induction n with
  | zero => intro _; exact List.nodup_nil
  | succ n ih =>
    intro h
    show (ls g n ++ [g n]).Nodup
    rw [List.nodup_append]
    refine ⟨ih fun i j h1 h2 => h i j h1 (by omega), List.nodup_cons.mpr ⟨List.not_mem_nil, List.nodup_nil⟩, fun a ha b hb => ?_⟩
    obtain ⟨t, ht, e⟩ := (ls_mem n).mp ha
    rw [List.mem_singleton] at hb
    rw [← e, hb]
    exact h t n ht (by omega)
theorem nd_ls {α : Type} {g : Nat → α} : ∀ n : Nat, (ls g n).Nodup → ∀ i j, i < j → j < n → g i ≠ g j := by
  intro n
  induction n with
  | zero => intro _ i j _ h; omega
  | succ n ih =>
    intro h i j h1 h2
    have h : (ls g n ++ [g n]).Nodup := h
    rw [List.nodup_append] at h
    by_cases q : j = n
    · subst q
      exact h.2.2 (g i) ((ls_mem _).mpr ⟨i, h1, rfl⟩) (g j) (List.mem_singleton.mpr rfl)
    · exact ih h.1 i j h1 (by omega)
/-- strictly falling -/
def sst (K : Nat → Int64) (n : Int) : Prop := ∀ i j : Nat, i < j → (j : Int) < n → (K j).toInt < (K i).toInt
theorem srt_le {K : Nat → Int64} {n : Int} (h : srt K n) : ∀ (d i : Nat), ((i + d : Nat) : Int) < n → (K (i + d)).toInt ≤ (K i).toInt := by
  intro d
  induction d with
  | zero => intro i _; exact Int.le_refl _
  | succ d ih =>
    intro i hi
    have h1 := h (i + d) (by omega)
    have h2 := ih i (by omega)
    rw [← Nat.add_assoc]
    omega
theorem sst_of {K : Nat → Int64} {n : Int} (h : srt K n) (hd : ∀ i j : Nat, i < j → (j : Int) < n → K i ≠ K j) : sst K n := fun i j h1 h2 => by
  have h3 := srt_le h (j - i) i (by omega)
  rw [show i + (j - i) = j by omega] at h3
  have h4 : (K i).toInt ≠ (K j).toInt := fun e => hd i j h1 h2 (Int64.toInt_inj.mp e)
  omega
def wrd (V : Nat → Int) (nv : Int) (x : Int64 × Int64) : Int32 × Int64 := (pof V x.1 nv.toNat, x.2)
def rwd (x : Int64 × Int64) : Int32 × Int64 := (pof idv x.1 8, x.2)
def pr5 (V : Nat → Int) (nv n : Int) (K F : Nat → Int64) (m : Int) (O : List (Int64 × Int64)) : Prop := m = n ∧ (∀ t : Nat, (t : Int) < n → ∃ w, val nv.toNat w ∧ K t = kof V w nv.toNat) ∧ sst K n ∧ (∀ x, x ∈ O → ∃ w, val nv.toNat w ∧ x.1 = kof idv w 8) ∧ ((ls (fun t => (K t, F t)) n.toNat).map (wrd V nv)).Perm (O.map rwd)
theorem onto_s {V : Nat → Int} {n : Int} (h : onto V n) (h0 : 0 ≤ n) : ∀ v : Nat, v < n.toNat → ∃ q, q < n.toNat ∧ V q = (v : Int) := fun v hv => by
  obtain ⟨j, hj, e⟩ := h.2 (v : Int) (by omega) (by omega)
  exact ⟨j, by omega, e⟩
theorem idv_b : ∀ j, 0 ≤ idv (j % 8) ∧ idv (j % 8) < 8 := fun j => by unfold idv; omega
/-- only the first n places count -/
theorem kof_cg {V V1 : Nat → Int} {w : Int32} : ∀ n : Nat, (∀ j, j < n → V j = V1 j) → kof V w n = kof V1 w n := by
  intro n
  induction n with
  | zero => intro _; rfl
  | succ n ih =>
    intro h
    show kof V w n ||| _ = kof V1 w n ||| _
    rw [ih fun j hj => h j (by omega), h n (by omega)]
theorem pof_cg {V V1 : Nat → Int} {κ : Int64} : ∀ n : Nat, (∀ j, j < n → V j = V1 j) → pof V κ n = pof V1 κ n := by
  intro n
  induction n with
  | zero => intro _; rfl
  | succ n ih =>
    intro h
    show pof V κ n ||| _ = pof V1 κ n ||| _
    rw [ih fun j hj => h j (by omega), h n (by omega)]
theorem rw_id {w : Int32} : pof idv (kof idv w 8) 8 = w := by
  have e1 : kof idv w 8 = kof (fun j => idv (j % 8)) w 8 := kof_cg 8 fun j hj => by rw [Nat.mod_eq_of_lt hj]
  have e2 : ∀ κ, pof idv κ 8 = pof (fun j => idv (j % 8)) κ 8 := fun κ => pof_cg 8 fun j hj => by rw [Nat.mod_eq_of_lt hj]
  rw [e2, e1]
  refine pof_kof idv_b (by decide) (fun v hv => ⟨v, hv, ?_⟩) val_8
  show idv (v % 8) = (v : Int)
  rw [Nat.mod_eq_of_lt hv]
  rfl
theorem val_m {n m : Nat} {w : Int32} (h : val n w) (e : n ≤ m) : val m w := fun i hi => h i (by omega)
section RL
variable {V V1 : Nat → Int} {nv n m : Int} {K F K1 F1 : Nat → Int64} {O N : List (Int64 × Int64)}
theorem cw (hO : onto V nv) (h0 : 0 ≤ nv ∧ nv ≤ 8) {w : Int32} (hw : val nv.toNat w) : pof V (kof V w nv.toNat) nv.toNat = w := pof_kof hO.1 (by omega) (onto_s hO h0.1) hw
/-- the order changes -/
theorem pr5_mv (h : pr5 V nv n K F m O) (hO : onto V nv) (hO1 : onto V1 nv) (h0 : 0 ≤ nv ∧ nv ≤ 8) (hn : 0 ≤ n) (hp : (ls (fun t => (K1 t, F1 t)) n.toNat).Perm (ls (fun t => (kof V1 (pof V (K t) nv.toNat) nv.toNat, F t)) n.toNat)) (hs : srt K1 n) (hN : N.Perm O) : pr5 V1 nv n K1 F1 m N := by
  obtain ⟨a1, a2, a3, a4, a5⟩ := h
  have hwv : ∀ t : Nat, (t : Int) < n → val nv.toNat (pof V (K t) nv.toNat) ∧ K t = kof V (pof V (K t) nv.toNat) nv.toNat := fun t ht => by
    obtain ⟨w, hw, e⟩ := a2 t ht
    rw [e, cw hO h0 hw]
    exact ⟨hw, rfl⟩
  have hk : (ls K1 n.toNat).Perm (ls (fun t => kof V1 (pof V (K t) nv.toNat) nv.toNat) n.toNat) := by
    have h9 := hp.map Prod.fst
    rw [ls_map, ls_map] at h9
    exact h9
  have hnd : (ls (fun t => kof V1 (pof V (K t) nv.toNat) nv.toNat) n.toNat).Nodup := ls_nd _ fun i j h1 h2 e => by
    have e1 := congrArg (fun κ => pof V1 κ nv.toNat) e
    simp only [cw hO1 h0 (hwv i (by omega)).1, cw hO1 h0 (hwv j (by omega)).1] at e1
    have e2 : K i = K j := by rw [(hwv i (by omega)).2, (hwv j (by omega)).2, e1]
    have h3 := a3 i j h1 (by omega)
    rw [e2] at h3
    omega
  refine ⟨a1, fun t ht => ?_, sst_of hs fun i j h1 h2 => nd_ls _ (hk.nodup_iff.mpr hnd) i j h1 (by omega), fun x hx => a4 x (hN.subset hx), ?_⟩
  · obtain ⟨u, hu, e⟩ := (ls_mem _).mp (hk.subset ((ls_mem _).mpr ⟨t, by omega, rfl⟩))
    exact ⟨_, (hwv u (by omega)).1, e.symm⟩
  · have h1 := hp.map (wrd V1 nv)
    have e1 : (ls (fun t => (kof V1 (pof V (K t) nv.toNat) nv.toNat, F t)) n.toNat).map (wrd V1 nv) = (ls (fun t => (K t, F t)) n.toNat).map (wrd V nv) := by
      rw [ls_map, ls_map]
      refine ls_cg _ fun t ht => ?_
      show (pof V1 (kof V1 (pof V (K t) nv.toNat) nv.toNat) nv.toNat, F t) = (pof V (K t) nv.toNat, F t)
      rw [cw hO1 h0 (hwv t (by omega)).1]
    rw [e1] at h1
    exact (h1.trans a5).trans (hN.map rwd).symm
/-- a variable comes -/
theorem kof_nv {w : Int32} {n : Nat} (hV : ∀ j, 0 ≤ V j ∧ V j < 8) (hn : n < 8) (hw : val n w) : kof (u1 V n (n : Int)) w (n + 1) = kof V w n := by
  have hb : ∀ j, 0 ≤ u1 V n (n : Int) j ∧ u1 V n (n : Int) j < 8 := rngv hV (by omega) rfl
  apply Int64.toBitVec_inj.mp
  apply BitVec.eq_of_getLsbD_eq
  intro i hi
  rw [bt_kof hb (n + 1) (by omega), bt_kof hV n (by omega)]
  by_cases h1 : i < 8 * n
  · rw [u1_o (by omega)]
    simp [h1, show i < 8 * (n + 1) by omega]
  · by_cases h2 : i < 8 * (n + 1)
    · rw [show i / 8 = n by omega, u1_s, hw _ (by omega)]
      simp [h1]
    · simp [h1, h2]
theorem pr5_nv (h : pr5 V nv n K F m O) (hO : onto V nv) (h0 : 0 ≤ nv ∧ nv < 8) (hn : 0 ≤ n) : pr5 (u1 V nv.toNat nv) (nv + 1) n K F m O := by
  obtain ⟨a1, a2, a3, a4, a5⟩ := h
  have e : (nv + 1).toNat = nv.toNat + 1 := by omega
  have hO1 : onto (u1 V nv.toNat nv) (nv + 1) := onto_add hO h0 rfl
  have hk : ∀ w, val nv.toNat w → kof V w nv.toNat = kof (u1 V nv.toNat nv) w (nv + 1).toNat := fun w hw => by
    have h9 := kof_nv (V := V) (n := nv.toNat) hO.1 (by omega) hw
    rw [show ((nv.toNat : Nat) : Int) = nv by omega] at h9
    rw [e, h9]
  refine ⟨a1, fun t ht => ?_, a3, fun x hx => ?_, ?_⟩
  · obtain ⟨w, hw, e1⟩ := a2 t ht
    exact ⟨w, val_m hw (by omega), by rw [e1, hk w hw]⟩
  · obtain ⟨w, hw, e1⟩ := a4 x hx
    exact ⟨w, val_m hw (by omega), e1⟩
  · have e2 : (ls (fun t => (K t, F t)) n.toNat).map (wrd (u1 V nv.toNat nv) (nv + 1)) = (ls (fun t => (K t, F t)) n.toNat).map (wrd V nv) := by
      rw [ls_map, ls_map]
      refine ls_cg _ fun t ht => ?_
      obtain ⟨w, hw, e1⟩ := a2 t (by omega)
      show (pof (u1 V nv.toNat nv) (K t) (nv + 1).toNat, F t) = (pof V (K t) nv.toNat, F t)
      rw [e1, cw hO (by omega) hw, hk w hw, cw hO1 (by omega) (val_m hw (by omega))]
    rw [e2]
    exact a5
end RL
