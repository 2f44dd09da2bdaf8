/-- what the slot i holds stays, in whatever order -/
def slp (ai : Nat → Nat → Int) (al al1 : Nat → Nat → Int64) (i : Nat) : Prop := (ls (pr_ al1 (60 * i)) (ai 242 i).toNat).Perm (ls (pr_ al (60 * i)) (ai 242 i).toNat)
theorem slp_0 {ai : Nat → Nat → Int} {al : Nat → Nat → Int64} {i : Nat} : slp ai al al i := List.Perm.refl _
theorem slp_fr {X Y : List Nat} {lo hi i : Nat} {sc sc1 : Nat → Int} {ai ai1 : Nat → Nat → Int} {al al1 : Nat → Nat → Int64} {az az1 : Nat → Nat → Int32} (hk : tmok ai) (hf : fr X Y lo hi sc ai al az sc1 ai1 al1 az1) (h : i < lo ∨ hi < i) : slp ai al al1 i := by
  unfold slp
  have h0 := hk.1 i
  rw [ls_cg (g := pr_ al1 (60 * i)) (h := pr_ al (60 * i)) _ fun t ht => by
    have q := (hf.2.2.2.1 i h).2 t (by omega)
    unfold pr_
    rw [q.1, q.2]]
theorem k80x {sc : Nat → Int} {ai : Nat → Nat → Int} {al : Nat → Nat → Int64} {az : Nat → Nat → Int32} {v0 vh : vm_H} (hM : tm sc ai al az v0 vh) (hK : tmok ai) (hI : gi sc ai al az) {i1 : Int} (hi_1 : 0 ≤ i1 ∧ i1 < 72) : vm_Rp 2 47 80 [.ref 238, .int (vz i1)] vh (fun r v1 => (∃ (sc1 : Nat → Int) (ai1 : Nat → Nat → Int) (al1 : Nat → Nat → Int64) (az1 : Nat → Nat → Int32), tm sc1 ai1 al1 az1 v0 v1 ∧ tmok ai1 ∧ gi sc1 ai1 al1 az1 ∧ fr [] [] (i1).toNat (i1).toNat sc ai al az sc1 ai1 al1 az1 ∧ (ai1 = ai ∧ slp ai al al1 (i1).toNat)) ∧ r = none) := by
  refine (c80x hM hK hi_1 hI.1.1.1).imp fun q v hq => ?_
  obtain ⟨⟨al1, hc, hp, hm⟩, rfl⟩ := hq
  have hk1 := hK.1 (i1).toNat
  have e0 : (60 * i1).toNat = 60 * (i1).toNat := by omega
  have hF : fr [] [] (i1).toNat (i1).toNat sc ai al az sc ai al1 az := ⟨fun _ _ => rfl, fun _ _ _ => rfl, fun a _ h3 h4 => hc.1 a ⟨h3, h4⟩, fun s hs => ⟨rfl, fun t ht => ⟨hc.2 243 _ (by omega), hc.2 244 _ (by omega)⟩⟩, fun _ _ => rfl⟩
  refine ⟨⟨sc, ai, al1, az, hm, hK, ⟨⟨hI.1.1, gd_new hI.1.2 hi_1.1 hF hK fun t ht => ?_⟩, hI.2⟩, hF, rfl, by unfold slp; rw [← e0]; exact hp⟩, rfl⟩
  have hmem : pr_ al1 (60 * i1).toNat t ∈ ls (pr_ al1 (60 * i1).toNat) (ai 242 (i1).toNat).toNat := (ls_mem _).mpr ⟨t, by omega, rfl⟩
  obtain ⟨u, hu, e⟩ := (ls_mem _).mp (hp.subset hmem)
  have e2 : al 243 ((60 * i1).toNat + u) = al1 243 ((60 * i1).toNat + t) := congrArg Prod.snd e
  rw [← e2, e0]
  exact hI.1.2 (i1).toNat u (by omega) (by omega)
