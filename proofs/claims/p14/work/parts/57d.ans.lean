/-! coefficient, powers and value, on both sides. -/
def st7 (T : T7) : S7 := T.2.2.getD ((fun _ => []), 0, [])
noncomputable def fdT (n p : Int) (V : Nat → Int) (F : Nat → Int32) (U : Nat → Po) (T : T7) (i1 i2 : Int) : Po := fdF p U ((st7 T).2.2.length : Int) (mbP (frO V F) n.toNat (st7 T).1 (st7 T).2.2) T.2.1.2.1 T.2.1.1 i1 i2
section AQ
variable {V : Nat → Nat} {nv : Nat} {sc : Nat → Int} {ai ai1 : Nat → Nat → Int} {al al1 : Nat → Nat → Int64} {l : Po} {q i3 : Int} {r : Option Value}
theorem qL_at {s i : Nat} (h : qL V nv ai al s l) (hi : i < l.length) : al 244 (60 * s + i) = Int64.ofNat (tr V nv (l.getD i (0, 0)).1) ∧ al 243 (60 * s + i) = (l.getD i (0, 0)).2 := by
  obtain ⟨x, q1, q2, q3, _⟩ := q_at h hi
  rw [gD_x q1]
  exact ⟨q3, q2⟩
theorem gD_in {i : Nat} (hi : i < l.length) : l.getD i (0, 0) ∈ l := by
  rw [gD_x (List.getElem?_eq_getElem hi)]
  exact List.getElem_mem hi
theorem an_co (h : (q = -1 ∧ l = []) ∨ (0 ≤ q ∧ qL V nv ai1 al1 q.toNat l)) (hr : ((q < 0 ∨ i3 < 0 ∨ ai1 242 q.toNat ≤ i3) ∧ r = some (.long (Int64.ofNat 0))) ∨ ((0 ≤ q ∧ 0 ≤ i3 ∧ i3 < ai1 242 q.toNat) ∧ r = some (.long (al1 243 (60 * q + i3).toNat)))) : r = some (.long (coF l i3)) := by
  rcases h with ⟨h1, h2⟩ | ⟨h1, h2⟩
  · rcases hr with ⟨_, hr⟩ | ⟨h3, _⟩
    · rw [co_n h2]; exact hr
    · omega
  · have h4 := h2.1
    rcases hr with ⟨h3, hr⟩ | ⟨h3, hr⟩
    · rw [co_o (by omega)]; exact hr
    · unfold coF
      rw [if_pos (by omega), ← (qL_at h2 (by omega)).2, ← pr_ix h1 h3.2.1]
      exact hr
theorem an_pw {V : Nat → Int} {n : Int} (hO : onto V n) (h0 : 0 ≤ n ∧ n ≤ 8) (hg : gk n.toNat l) (h : (q = -1 ∧ l = []) ∨ (0 ≤ q ∧ qL (vO V) n.toNat ai1 al1 q.toNat l)) (hr : ((q < 0 ∨ i3 < 0 ∨ ai1 242 q.toNat ≤ i3) ∧ r = some (.int (vz (-1)))) ∨ ((0 ≤ q ∧ 0 ≤ i3 ∧ i3 < ai1 242 q.toNat) ∧ r = some (.int (pof idv (al1 244 (60 * q + i3).toNat) 8)))) : r = some (.int (pwF V n.toNat l i3)) := by
  rcases h with ⟨h1, h2⟩ | ⟨h1, h2⟩
  · rcases hr with ⟨_, hr⟩ | ⟨h3, _⟩
    · rw [pw_n h2]; exact hr
    · omega
  · have h4 := h2.1
    rcases hr with ⟨h3, hr⟩ | ⟨h3, hr⟩
    · rw [pw_o (by omega)]; exact hr
    · have hi : i3.toNat < l.length := by omega
      have h5 := gk_dg hg (gD_in hi)
      unfold pwF
      rw [if_pos (by omega), ← pw_br hO h0 h5.1 h5.2, ← (qL_at h2 hi).1, ← pr_ix h1 h3.2.1]
      exact hr
theorem vo_vl {V : Nat → Int} {n : Int} {pt : Nat → Int64} (hO : onto V n) (h0 : 0 ≤ n ∧ n ≤ 8) (hg : gk n.toNat l) {s : Nat} (h : qL (vO V) n.toNat ai1 al1 s l) : ∀ m : Nat, m ≤ l.length → voF pt (fun t => al1 244 (60 * s + t)) (fun t => al1 243 (60 * s + t)) m = vlF pt V n.toNat (fun t => Int64.ofNat (l.getD t (0, 0)).1) (fun t => (l.getD t (0, 0)).2) m := by
  intro m
  induction m with
  | zero => intro _; rfl
  | succ m ih =>
    intro hm
    have h5 := gk_dg hg (gD_in (l := l) (i := m) (by omega))
    show voF pt _ _ m + al1 243 (60 * s + m) * vaF pt (al1 244 (60 * s + m)) 8 = vlF pt V n.toNat _ _ m + (l.getD m (0, 0)).2 * vkF pt V (Int64.ofNat (l.getD m (0, 0)).1) n.toNat
    rw [ih (by omega), (qL_at h (by omega)).1, (qL_at h (by omega)).2, vk_br hO h0 h5.1]
theorem an_vu {V : Nat → Int} {n : Int} {pt : Nat → Int64} (hO : onto V n) (h0 : 0 ≤ n ∧ n ≤ 8) (hg : gk n.toNat l) (hp : ptE (al1 245) pt) (h : (q = -1 ∧ l = []) ∨ (0 ≤ q ∧ qL (vO V) n.toNat ai1 al1 q.toNat l)) (hr : (q < 0 ∧ r = some (.long (Int64.ofNat 0))) ∨ (0 ≤ q ∧ r = some (.long (voF (al1 245) (fun t => al1 244 (60 * q.toNat + t)) (fun t => al1 243 (60 * q.toNat + t)) (ai1 242 q.toNat).toNat)))) : r = some (.long (vuF pt V n.toNat l)) := by
  rcases h with ⟨h1, h2⟩ | ⟨h1, h2⟩
  · rcases hr with ⟨_, hr⟩ | ⟨h3, _⟩
    · rw [vu_n h2]; exact hr
    · omega
  · have h4 := h2.1
    rcases hr with ⟨h3, _⟩ | ⟨_, hr⟩
    · omega
    · rw [vo_pt hp, show (ai1 242 q.toNat).toNat = l.length by omega, vo_vl hO h0 hg h2 l.length (Nat.le_refl _)] at hr
      exact hr
theorem slO_p {S : Nat → Po × Nat × Nat} {i1 i2 : Int} (h : slO V nv S sc ai ai1 al al1 i1 i2 q) : al1 245 = al 245 := by
  rcases h with ⟨_, _, _, h⟩ | ⟨⟨_, h⟩, _⟩
  · exact h.1.1 245 (by decide) (by decide)
  · rw [h]
theorem fd_r {fr : Nat → Bool} {n m : Nat} {U : Nat → Po} {S : Nat → Po × Nat × Nat} {T : T7} {i1 i2 : Int} (h : slO V nv S (u1 sc 0 0) ai ai1 al al1 i1 i2 q) (hU : usQ V nv n U ai al) (h4 : sc 4 = (n : Int)) (hms : msQ fr V nv sc ai al m S) (ht : tQ V nv sc ai al T) : (q = -1 ∧ fdF (sc 4) U (m : Int) S T.2.1.2.1 T.2.1.1 i1 i2 = []) ∨ (0 ≤ q ∧ qL V nv ai1 al1 q.toNat (fdF (sc 4) U (m : Int) S T.2.1.2.1 T.2.1.1 i1 i2)) := by
  have e4 : u1 sc 0 0 4 = sc 4 := u1_o (by decide)
  have e11 : u1 sc 0 0 11 = sc 11 := u1_o (by decide)
  have e12 : u1 sc 0 0 12 = sc 12 := u1_o (by decide)
  have e13 : u1 sc 0 0 13 = sc 13 := u1_o (by decide)
  have hm := hms.1.1
  unfold slO at h
  rw [e4, e11, e12, e13] at h
  obtain ⟨_, t2, t3, _⟩ := ht
  rcases h with ⟨a1, a2, a3, a4⟩ | ⟨⟨rfl, rfl⟩, h⟩
  · refine Or.inr ⟨by omega, ?_⟩
    rw [a3, fd2 a1 (by omega)]
    exact a4.2.2
  · rcases h with ⟨a1, a2, a3⟩ | ⟨a1, a2, a3⟩ | ⟨a1, a2, a3⟩ | ⟨a1, a2, a3⟩ | ⟨a3, b0, b1, b2, b3, b4⟩
    · refine Or.inr ⟨by omega, ?_⟩
      rw [fd0 a1 a2, a3]
      exact (hU i2.toNat (by omega)).1
    · refine Or.inr ⟨by omega, ?_⟩
      rw [fd1 a1 (by omega), a3, show (58 + i2).toNat = 58 + i2.toNat by omega]
      exact (hms.2 i2.toNat (by omega)).1.1
    · refine Or.inr ⟨by omega, ?_⟩
      rw [fd3 a1 a2.1, a3]
      rcases t3 with ⟨z, _⟩ | ⟨_, z⟩
      · exact absurd z a2.2
      · exact z.1
    · refine Or.inr ⟨by omega, ?_⟩
      rw [fd4 a1 a2.1, a3]
      rcases t2 with ⟨z, _⟩ | ⟨_, z⟩
      · exact absurd z a2.2
      · exact z.1
    · refine Or.inl ⟨a3, fdn b0 (fun z => b1 (by omega)) (fun z => b2 (by omega)) (fun z1 z2 => ?_) (fun z1 z2 => ?_)⟩
      · rcases t3 with ⟨_, z⟩ | ⟨z, _⟩
        · exact z
        · exact absurd ⟨z1, z2, by omega⟩ b3
      · rcases t2 with ⟨_, z⟩ | ⟨z, _⟩
        · exact z
        · exact absurd ⟨z1, z2, by omega⟩ b4
end AQ
section JZ
variable {V : Nat → Int} {F H : Nat → Int32} {L : Nat} {xs : Nat → Int32} {vh : vm_H} {n p n2 p2 t : Int} {g : Int64} {u : D5u} {w : D5w} {U : Nat → Po} {T : T7} {i1 i2 i3 : Int}
theorem st_k {nv np : Nat} {fr hy : Nat → Bool} {Z : Nat → Nat → Int} {al : Nat → Nat → Int64} {mm : Nat → Option Nat} (h : stC nv np fr hy Z al mm T.2.2) : Z 217 0 = ((st7 T).2.2.length : Int) ∧ setK fr nv (st7 T).1 (st7 T).2.1 (st7 T).2.2 Z al mm := by
  unfold st7
  revert h
  cases T.2.2 with
  | none =>
    intro h
    have h : Z 217 0 = 0 := h
    exact ⟨h, fun z => absurd z (by omega)⟩
  | some s => exact fun h => ⟨h.2.1.2.1.1, fun _ => h.2.1⟩
theorem J53a (hL : lI L xs vh n p n2 p2 t g u w) (hC : jC vh V F H T) (hR : jR vh V F H T) (hu : uW n u w U) (hi_1 : -2147483648 ≤ i1 ∧ i1 < 2147483648) (hi_2 : -2147483648 ≤ i2 ∧ i2 < 2147483648) (hi_3 : -2147483648 ≤ i3 ∧ i3 < 2147483648) : vm_Rp 3 69 53 [.ref 1, .int (vz i1), .int (vz i2), .int (vz i3)] vh (fun r v1 => jC v1 V F H T ∧ jR v1 V F H T ∧ r = some (.long (coF (fdT n p V F U T i1 i2) i3))) := by
  obtain ⟨Z, al, ai, az, mm, sk, hT, hk, ⟨rfl, rfl, rfl⟩, hfp, hH, hTc, hSt⟩ := hC
  obtain ⟨⟨j1, j2, j3⟩, j4⟩ := jl hL hT
  have hbd := lI_b hL
  have hUK : usK n.toNat p.toNat U Z al := uW_K hu j4 (by omega)
  obtain ⟨h217, hset⟩ := st_k hSt
  refine (k53i hT hk hi_1 hi_2 hi_3 hset (by omega) (by omega) (by rw [j1, j2]; exact hUK) hTc.2.2.1.1 hTc.2.1.1).imp fun r v1 hq => ?_
  obtain ⟨Z1, al1, hl, rfl, hk1, hT1⟩ := hq
  exact ⟨jC_lo hT1 hk1 hl (by omega) hfp hH hTc hSt, jR_k hR hT1, by unfold fdT; rw [h217, j2, j1]⟩
theorem J54a (hL : lI L xs vh n p n2 p2 t g u w) (hC : jC vh V F H T) (hR : jR vh V F H T) (hu : uW n u w U) (hi_1 : -2147483648 ≤ i1 ∧ i1 < 2147483648) (hi_2 : -2147483648 ≤ i2 ∧ i2 < 2147483648) (hi_3 : -2147483648 ≤ i3 ∧ i3 < 2147483648) : vm_Rp 3 69 54 [.ref 1, .int (vz i1), .int (vz i2), .int (vz i3)] vh (fun r v1 => jC v1 V F H T ∧ jR v1 V F H T ∧ r = some (.int (pwF V n.toNat (fdT n p V F U T i1 i2) i3))) := by
  obtain ⟨Z, al, ai, az, mm, sk, hT, hk, ⟨rfl, rfl, rfl⟩, hfp, hH, hTc, hSt⟩ := hC
  obtain ⟨⟨j1, j2, j3⟩, j4⟩ := jl hL hT
  have hbd := lI_b hL
  have hO : onto (ai 5) n := by rw [j3]; exact (lI_u hL).1
  have hUK : usK n.toNat p.toNat U Z al := uW_K hu j4 (by omega)
  obtain ⟨h217, hset⟩ := st_k hSt
  refine (k54i hT hk hi_1 hi_2 hi_3 hset (by omega) (by omega) (by rw [j1, j2]; exact hUK) hTc.2.2.1.1 hTc.2.1.1 (by omega) hO.1).imp fun r v1 hq => ?_
  obtain ⟨Z1, al1, hl, rfl, hk1, hT1⟩ := hq
  exact ⟨jC_lo hT1 hk1 hl (by omega) hfp hH hTc hSt, jR_k hR hT1, by unfold fdT; rw [h217, j2, j1]⟩
theorem J56a (hL : lI L xs vh n p n2 p2 t g u w) (hC : jC vh V F H T) (hR : jR vh V F H T) (hu : uW n u w U) (hi_1 : -2147483648 ≤ i1 ∧ i1 < 2147483648) (hi_2 : -2147483648 ≤ i2 ∧ i2 < 2147483648) : vm_Rp 3 73 56 [.ref 1, .int (vz i1), .int (vz i2)] vh (fun r v1 => jC v1 V F H T ∧ jR v1 V F H T ∧ r = some (.long (vuF T.2.1.2.2 V n.toNat (fdT n p V F U T i1 i2)))) := by
  obtain ⟨Z, al, ai, az, mm, sk, hT, hk, ⟨rfl, rfl, rfl⟩, hfp, hH, hTc, hSt⟩ := hC
  obtain ⟨⟨j1, j2, j3⟩, j4⟩ := jl hL hT
  have hbd := lI_b hL
  have hO : onto (ai 5) n := by rw [j3]; exact (lI_u hL).1
  have hUK : usK n.toNat p.toNat U Z al := uW_K hu j4 (by omega)
  obtain ⟨h217, hset⟩ := st_k hSt
  refine (k56i hT hk hi_1 hi_2 hset (by omega) (by omega) (by rw [j1, j2]; exact hUK) hTc.2.2.1.1 hTc.2.1.1 (by omega) hO.1).imp fun r v1 hq => ?_
  obtain ⟨Z1, al1, hl, rfl, hk1, hT1⟩ := hq
  exact ⟨jC_lo hT1 hk1 hl (by omega) hfp hH hTc hSt, jR_k hR hT1, by unfold fdT; rw [h217, j2, j1, vu_pt hTc.2.2.2 hO.1]⟩
/-- the reference's side: its set, and what is named -/
theorem jQ (hL : lI L xs vh n p n2 p2 t g u w) (hC : jC vh V F H T) (hR : jR vh V F H T) (hu : uW n2 u w U) (ev : u.1 = V) (en2 : n2 = n) : ∃ (sc : Nat → Int) (ai : Nat → Nat → Int) (al : Nat → Nat → Int64) (az : Nat → Nat → Int32), (tm sc ai al az vh vh ∧ tmok ai) ∧ ((sc 1 = n2 ∧ sc 4 = p2) ∧ (ai 240 = V ∧ az 239 = F)) ∧ ((0 ≤ n2 ∧ n2 ≤ 8) ∧ (0 ≤ p2 ∧ p2 ≤ 16) ∧ (0 ≤ sc 11 ∧ sc 11 ≤ 8)) ∧ onto V n2 ∧ usQ (vO V) n2.toNat p2.toNat U ai al ∧ msQ (frO V F) (vO V) n2.toNat sc ai al (st7 T).2.2.length (mbP (frO V F) n2.toNat (st7 T).1 (st7 T).2.2) ∧ tQ (vO V) n2.toNat sc ai al T ∧ ∀ i1 i2, gk n2.toNat (fdT n2 p2 V F U T i1 i2) := by
  have hL0 := hL
  obtain ⟨θ, sc, ai, al, az, fo, ⟨_, ⟨rfl, rfl⟩, _⟩, hT, hM, hK, hI, hR2, hS9, hO9, hU, hW⟩ := hL
  obtain ⟨⟨rfl, rfl, rfl⟩, hs, ht, hst⟩ := jRl hR hM
  have hb := hI.1.1
  have hUQ : usQ (vO (ai 240)) (sc 1).toNat (sc 4).toNat U ai al := fun i hi => by
    obtain ⟨_, h3, h4, h5⟩ := hu i (by omega)
    have h8 := hW i (by omega)
    refine ⟨⟨h8.1.trans h4, ?_⟩, h3⟩
    have h9 := h8.2
    rw [h4, Int.toNat_natCast, h5, ev] at h9
    exact h9
  have hpl : (st7 T).2.2.length ≤ 8 ∧ ∀ b, b ∈ (st7 T).2.2 → plP (frO (ai 240) (az 239)) (sc 1).toNat ((st7 T).1 b) ≠ -1 := by
    obtain ⟨Z, al0, ai0, az0, mm, sk, hT0, hk0, _, _, _, _, hSt⟩ := hC
    have ez := (jl hL0 hT0).1.1
    rw [ez, ← en2] at hSt
    unfold st7
    revert hSt
    cases T.2.2 with
    | none => exact fun _ => ⟨Nat.zero_le _, fun b hb => absurd hb List.not_mem_nil⟩
    | some s => exact fun hSt => ⟨hSt.2.1.2.1.2.1, fun b hb9 => hSt.2.1.1.2 b (hSt.2.1.2.1.2.2.1 b hb9)⟩
  have h11 : sc 11 = ((st7 T).2.2.length : Int) ∧ ∀ j, j < (st7 T).2.2.length → qL (vO (ai 240)) (sc 1).toNat ai al (58 + j) ((st7 T).1 ((st7 T).2.2.reverse.getD j 0)) ∧ gk (sc 1).toNat ((st7 T).1 ((st7 T).2.2.reverse.getD j 0)) := by
    unfold st7
    revert hst
    cases T.2.2 with
    | none => exact fun h => ⟨h.2, fun j hj => absurd hj (Nat.not_lt_zero _)⟩
    | some s => exact fun h => ⟨h.1.2, h.2⟩
  have hms : msQ (frO (ai 240) (az 239)) (vO (ai 240)) (sc 1).toNat sc ai al (st7 T).2.2.length (mbP (frO (ai 240) (az 239)) (sc 1).toNat (st7 T).1 (st7 T).2.2) := ⟨⟨h11.1, hpl.1⟩, fun j hj => ⟨h11.2 j hj, by
    have h1 := hpl.2 _ (gD_mem hj)
    have h2 := pl_bd (fr := frO (ai 240) (az 239)) (nv := (sc 1).toNat) (f := (st7 T).1 ((st7 T).2.2.reverse.getD j 0))
    show plP _ _ ((st7 T).1 ((st7 T).2.2.reverse.getD j 0)) = ((plP _ _ ((st7 T).1 ((st7 T).2.2.reverse.getD j 0))).toNat : Int)
    omega, rfl⟩⟩
  refine ⟨sc, ai, al, az, ⟨hM, hK⟩, ⟨⟨rfl, rfl⟩, rfl, rfl⟩, ⟨hb.1, hb.2, by rw [h11.1]; have := hpl.1; omega⟩, ri_on hK hR2, hUQ, hms, ht, fun i1 i2 => ?_⟩
  unfold fdT
  refine gk_fd (by omega) (fun i hi => (hUQ i (by omega)).2) (fun j hj => ?_) ?_ ?_
  · have h9 := hms.2 j (by omega)
    have h2 := pl_bd (fr := frO (ai 240) (az 239)) (nv := (sc 1).toNat) (f := (mbP (frO (ai 240) (az 239)) (sc 1).toNat (st7 T).1 (st7 T).2.2 j).1)
    exact ⟨h9.1.2, by have := h9.2.1; omega⟩
  · rcases ht.2.2.1 with ⟨_, z⟩ | ⟨_, z⟩
    · rw [z]; exact gk_nil
    · exact z.2
  · rcases ht.2.1 with ⟨_, z⟩ | ⟨_, z⟩
    · rw [z]; exact gk_nil
    · exact z.2
theorem J115a (hL : lI L xs vh n p n2 p2 t g u w) (hC : jC vh V F H T) (hR : jR vh V F H T) (hu : uW n2 u w U) (ev : u.1 = V) (en2 : n2 = n) (hi_1 : -2147483648 ≤ i1 ∧ i1 < 2147483648) (hi_2 : -2147483648 ≤ i2 ∧ i2 < 2147483648) (hi_3 : -2147483648 ≤ i3 ∧ i3 < 2147483648) : vm_Rp 5 112 115 [.ref 238, .int (vz i1), .int (vz i2), .int (vz i3)] vh (fun r v1 => jC v1 V F H T ∧ jR v1 V F H T ∧ r = some (.long (coF (fdT n2 p2 V F U T i1 i2) i3))) := by
  obtain ⟨sc, ai, al, az, ⟨hM, hK⟩, ⟨⟨rfl, rfl⟩, rfl, rfl⟩, ⟨b1, b2, b3⟩, hO, hUQ, hms, ht, hg⟩ := jQ hL hC hR hu ev en2
  refine (rp_and (J115 hL hC hR hi_1 hi_2 hi_3) (r115 hM hK hi_1 hi_2 hi_3 (nv := (sc 1).toNat) (by omega) (rfl : vR ai = vO (ai 240)) (rfl : frR az ai = frO (ai 240) (az 239)) (pm_on hO b1) hms b2 b3)).imp fun r v1 hq => ?_
  obtain ⟨⟨q1, q2⟩, ai1, al1, q, ⟨hsl, hr⟩, _, _⟩ := hq
  exact ⟨q1, q2, an_co (fd_r hsl hUQ (by omega) hms ht) hr⟩
theorem J116a (hL : lI L xs vh n p n2 p2 t g u w) (hC : jC vh V F H T) (hR : jR vh V F H T) (hu : uW n2 u w U) (ev : u.1 = V) (en2 : n2 = n) (hi_1 : -2147483648 ≤ i1 ∧ i1 < 2147483648) (hi_2 : -2147483648 ≤ i2 ∧ i2 < 2147483648) (hi_3 : -2147483648 ≤ i3 ∧ i3 < 2147483648) : vm_Rp 5 112 116 [.ref 238, .int (vz i1), .int (vz i2), .int (vz i3)] vh (fun r v1 => jC v1 V F H T ∧ jR v1 V F H T ∧ r = some (.int (pwF V n2.toNat (fdT n2 p2 V F U T i1 i2) i3))) := by
  obtain ⟨sc, ai, al, az, ⟨hM, hK⟩, ⟨⟨rfl, rfl⟩, rfl, rfl⟩, ⟨b1, b2, b3⟩, hO, hUQ, hms, ht, hg⟩ := jQ hL hC hR hu ev en2
  refine (rp_and (J116 hL hC hR hi_1 hi_2 hi_3) (r116 hM hK hi_1 hi_2 hi_3 (nv := (sc 1).toNat) (by omega) (rfl : vR ai = vO (ai 240)) (rfl : frR az ai = frO (ai 240) (az 239)) (pm_on hO b1) hms b2 b3)).imp fun r v1 hq => ?_
  obtain ⟨⟨q1, q2⟩, ai1, al1, q, ⟨hsl, hr⟩, _, _⟩ := hq
  exact ⟨q1, q2, an_pw hO b1 (hg i1 i2) (fd_r hsl hUQ (by omega) hms ht) hr⟩
theorem J120a (hL : lI L xs vh n p n2 p2 t g u w) (hC : jC vh V F H T) (hR : jR vh V F H T) (hu : uW n2 u w U) (ev : u.1 = V) (en2 : n2 = n) (hi_1 : -2147483648 ≤ i1 ∧ i1 < 2147483648) (hi_2 : -2147483648 ≤ i2 ∧ i2 < 2147483648) : vm_Rp 5 112 120 [.ref 238, .int (vz i1), .int (vz i2)] vh (fun r v1 => jC v1 V F H T ∧ jR v1 V F H T ∧ r = some (.long (vuF T.2.1.2.2 V n2.toNat (fdT n2 p2 V F U T i1 i2)))) := by
  obtain ⟨sc, ai, al, az, ⟨hM, hK⟩, ⟨⟨rfl, rfl⟩, rfl, rfl⟩, ⟨b1, b2, b3⟩, hO, hUQ, hms, ht, hg⟩ := jQ hL hC hR hu ev en2
  refine (rp_and (J120 hL hC hR hi_1 hi_2) (r120 hM hK hi_1 hi_2 (nv := (sc 1).toNat) (by omega) (rfl : vR ai = vO (ai 240)) (rfl : frR az ai = frO (ai 240) (az 239)) (pm_on hO b1) hms b2 b3)).imp fun r v1 hq => ?_
  obtain ⟨⟨q1, q2⟩, ai1, al1, q, ⟨hsl, hr⟩, _, _⟩ := hq
  exact ⟨q1, q2, an_vu hO b1 (hg i1 i2) (by rw [slO_p hsl]; exact ht.2.2.2) (fd_r hsl hUQ (by omega) hms ht) hr⟩
end JZ
