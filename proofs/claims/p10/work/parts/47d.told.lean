/-! told, on both sides. -/
def tdA (n p : Int) (H : Nat → Int32) (i1 : Int) (T : T7) : Int := if i1 = 0 then n else if i1 = 1 then p else if i1 = 2 then hcF (hyO H) p.toNat else if i1 = 3 then (match T.2.2 with | none => (0 : Int) | some s => (s.2.2.length : Int)) else if i1 = 4 then T.1.1 else if i1 = 5 then T.1.2.1 else if i1 = 6 then T.1.2.2.1 else if i1 = 7 then T.1.2.2.2 else if i1 = 8 then T.2.1.1 else if i1 = 9 then T.2.1.2 else -1
section TD
variable {V : Nat → Int} {F H : Nat → Int32} {L : Nat} {xs : Nat → Int32} {vh : vm_H} {n p n2 p2 t : Int} {g : Int64} {u : D5u} {w : D5w} {T : T7} {i1 q : Int}
theorem td_e (e0 : i1 = 0 → q = n) (e1 : i1 = 1 → q = p) (e2 : i1 = 2 → q = hcF (hyO H) p.toNat) (e3 : i1 = 3 → q = (match T.2.2 with | none => (0 : Int) | some s => (s.2.2.length : Int))) (e4 : i1 = 4 → q = T.1.1) (e5 : i1 = 5 → q = T.1.2.1) (e6 : i1 = 6 → q = T.1.2.2.1) (e7 : i1 = 7 → q = T.1.2.2.2) (e8 : i1 = 8 → q = T.2.1.1) (e9 : i1 = 9 → q = T.2.1.2) (eo : i1 < 0 ∨ 9 < i1 → q = -1) : q = tdA n p H i1 T := by
  unfold tdA
  by_cases a0 : i1 = 0
  · rw [if_pos a0]; exact e0 a0
  rw [if_neg a0]
  by_cases a1 : i1 = 1
  · rw [if_pos a1]; exact e1 a1
  rw [if_neg a1]
  by_cases a2 : i1 = 2
  · rw [if_pos a2]; exact e2 a2
  rw [if_neg a2]
  by_cases a3 : i1 = 3
  · rw [if_pos a3]; exact e3 a3
  rw [if_neg a3]
  by_cases a4 : i1 = 4
  · rw [if_pos a4]; exact e4 a4
  rw [if_neg a4]
  by_cases a5 : i1 = 5
  · rw [if_pos a5]; exact e5 a5
  rw [if_neg a5]
  by_cases a6 : i1 = 6
  · rw [if_pos a6]; exact e6 a6
  rw [if_neg a6]
  by_cases a7 : i1 = 7
  · rw [if_pos a7]; exact e7 a7
  rw [if_neg a7]
  by_cases a8 : i1 = 8
  · rw [if_pos a8]; exact e8 a8
  rw [if_neg a8]
  by_cases a9 : i1 = 9
  · rw [if_pos a9]; exact e9 a9
  rw [if_neg a9]
  exact eo (by omega)
theorem J52t (hL : lI L xs vh n p n2 p2 t g u w) (hC : jC vh V F H T) (hR : jR vh V F H T) (hi_1 : -2147483648 ≤ i1 ∧ i1 < 2147483648) : vm_Rp 1 22 52 [.ref 1, .int (vz i1)] vh (fun r v1 => jC v1 V F H T ∧ jR v1 V F H T ∧ r = some (.int (vz (tdA n p H i1 T)))) := by
  have hC0 := hC
  obtain ⟨Z, al, ai, az, mm, sk, hT, hk, ⟨rfl, rfl, rfl⟩, hfp, hH, hTc, hSt⟩ := hC
  obtain ⟨⟨j1, j2, j3⟩, j4⟩ := jl hL hT
  have hbd := lI_b hL
  have e3 : Z 217 0 = (match T.2.2 with | none => (0 : Int) | some s => (s.2.2.length : Int)) := by
    revert hSt
    cases T.2.2 with
    | none => exact fun h => h
    | some s => exact fun h => h.2.1.2.1.1
  refine (k52 hT hk hi_1 (by omega)).imp fun r v1 hq => ?_
  obtain ⟨rfl, q, hq, rfl⟩ := hq
  obtain ⟨⟨t1, t2, t3, t4⟩, t5, t6⟩ := hTc
  have ehc : hcF (hyK az) (Z 1 0).toNat = hcF (hyO (az 55)) p.toNat := by rw [j2]; rfl
  refine ⟨hC0, hR, ?_⟩
  rw [← td_e (q := q) (fun a => by omega) (fun a => by omega) (fun a => by rw [← ehc]; omega) (fun a => by rw [← e3]; omega) (fun a => by omega) (fun a => by omega) (fun a => by omega) (fun a => by omega) (fun a => by omega) (fun a => by omega) (fun a => by omega)]
theorem J113t (hL : lI L xs vh n p n2 p2 t g u w) (hC : jC vh V F H T) (hR : jR vh V F H T) (hi_1 : -2147483648 ≤ i1 ∧ i1 < 2147483648) : vm_Rp 0 0 113 [.ref 238, .int (vz i1)] vh (fun r v1 => jC v1 V F H T ∧ jR v1 V F H T ∧ r = some (.int (vz (tdA n2 p2 H i1 T)))) := by
  obtain ⟨θ, sc, ai, al, az, fo, ⟨_, ⟨rfl, rfl⟩, _⟩, hT, hM, hK, hI, hR2, hS9, hO9, hU, hW⟩ := hL
  obtain ⟨⟨rfl, rfl, rfl⟩, hs, ht, hst⟩ := jRl hR hM
  have hb := hI.1.1
  have e3 : sc 11 = (match T.2.2 with | none => (0 : Int) | some s => (s.2.2.length : Int)) := by
    revert hst
    cases T.2.2 with
    | none => exact fun h => h.2
    | some s => exact fun h => h.1.2
  refine (r113 hM hK hi_1 hb.2).imp fun r v1 hq => ?_
  obtain ⟨sc1, q, hq, rfl, rfl, hM1⟩ := hq
  obtain ⟨⟨t1, t2, t3, t4⟩, t5, t6⟩ := id ht
  have ehc : hcF (hyR az) (sc 4).toNat = hcF (hyO (az 241)) (sc 4).toNat := rfl
  refine ⟨jC_k hC hM1, jR_00 hs ht hst hM1, ?_⟩
  rw [← td_e (q := q) (fun a => by omega) (fun a => by omega) (fun a => by rw [← ehc]; omega) (fun a => by rw [← e3]; omega) (fun a => by omega) (fun a => by omega) (fun a => by omega) (fun a => by omega) (fun a => by omega) (fun a => by omega) (fun a => by omega)]
end TD
