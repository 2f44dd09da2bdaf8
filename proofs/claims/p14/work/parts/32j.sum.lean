/-! A step by gathering: the same sum as by merging. -/
def sI {α : Type} (l : List α) (g : α → Int64) : Int64 := l.foldr (fun x s => g x + s) 0
section SI
variable {α β : Type} {l : List α} {m : List β} {g h : α → Int64}
theorem sI_nil : sI ([] : List α) g = 0 := rfl
theorem sI_cons {x : α} : sI (x :: l) g = g x + sI l g := rfl
theorem sI_cg (q : ∀ x, x ∈ l → g x = h x) : sI l g = sI l h := by
  induction l with
  | nil => rfl
  | cons x l ih => rw [sI_cons, sI_cons, q x (List.mem_cons_self ..), ih fun y hy => q y (List.mem_cons_of_mem _ hy)]
theorem sI_add : sI l (fun x => g x + h x) = sI l g + sI l h := by
  induction l with
  | nil => rfl
  | cons x l ih =>
    rw [sI_cons, sI_cons, sI_cons, ih]
    ac_rfl
theorem sI_0 : sI l (fun _ => 0) = 0 := by
  induction l with
  | nil => rfl
  | cons x l ih => rw [sI_cons, ih, Int64.zero_add]
theorem sI_swap {k : α → β → Int64} : sI l (fun x => sI m (fun y => k x y)) = sI m (fun y => sI l (fun x => k x y)) := by
  induction l with
  | nil => exact sI_0.symm
  | cons x l ih =>
    rw [sI_cons, ih, ← sI_add]
    rfl
theorem sI_split {p : α → Bool} : sI l g = sI (l.filter p) g + sI (l.filter fun x => !p x) g := by
  induction l with
  | nil => rfl
  | cons x l ih =>
    rw [List.filter_cons, List.filter_cons, sI_cons, ih]
    cases p x
    · simp only [Bool.not_false, if_true]
      rw [if_neg (by decide), sI_cons]
      ac_rfl
    · simp only [Bool.not_true, if_true]
      rw [if_neg (by decide), sI_cons]
      ac_rfl
theorem cf_fm {f : α → Po} {k : Nat} : cf (l.flatMap f) k = sI l (fun x => cf (f x) k) := by
  induction l with
  | nil => rfl
  | cons x l ih => rw [List.flatMap_cons, cf_app, ih]; rfl
theorem cf_mp {f : α → Nat × Int64} {k : Nat} : cf (l.map f) k = sI l (fun x => if (f x).1 = k then (f x).2 else 0) := by
  induction l with
  | nil => rfl
  | cons x l ih => rw [List.map_cons, cf_cons, ih]; rfl
end SI
/-- all products, as the reference makes them -/
def rpA (f b : Po) (p e : Nat) : Po := f.flatMap fun x => (ldL b p e).map fun y => (x.1 + y.1, x.2 * y.2)
def rpB (f b : Po) (p d e : Nat) : Po := (ldL f p d).flatMap fun x => b.map fun y => (x.1 + (d - e) * 256 ^ p + y.1, -x.2 * y.2)
theorem sI_map {α β : Type} {l : List α} {f : α → β} {g : β → Int64} : sI (l.map f) g = sI l (fun x => g (f x)) := by
  induction l with
  | nil => rfl
  | cons x l ih => rw [List.map_cons, sI_cons, ih]; rfl
theorem lds_e {f : Po} {p d : Nat} : lds f p d = f.filter (fun x => decide (dgt x.1 p = d)) := rfl
theorem nld_e {f : Po} {p d : Nat} : nld f p d = f.filter (fun x => !decide (dgt x.1 p = d)) := by
  unfold nld
  congr 1
  funext x
  simp
theorem rp_prC {nv : Nat} {f b : Po} {p d e : Nat} (hf : gk nv f) (hb : gk nv b) (hp : p < nv) (hde : e ≤ d) (k : Nat) : cf (rpA f b p e) k + cf (rpB f b p d e) k = cf (prC f b p d e) k := by
  have hle : ∀ y, y ∈ lds b p e → e * 256 ^ p ≤ y.1 := fun y hy => by
    have h1 := List.mem_filter.mp hy
    have h2 : dgt y.1 p = e := by simpa using h1.2
    exact (dgt_sub (hb.2.2 y h1.1) hp (Nat.le_of_eq h2.symm)).1
  have hld : ∀ x, x ∈ lds f p d → d * 256 ^ p ≤ x.1 := fun x hx => by
    have h1 := List.mem_filter.mp hx
    have h2 : dgt x.1 p = d := by simpa using h1.2
    exact (dgt_sub (hf.2.2 x h1.1) hp (Nat.le_of_eq h2.symm)).1
  have hmul : d * 256 ^ p = (d - e) * 256 ^ p + e * 256 ^ p := by rw [← Nat.add_mul, Nat.sub_add_cancel hde]
  have e1 : cf (rpA f b p e) k = sI f (fun x => sI (lds b p e) (fun y => if x.1 + (y.1 - e * 256 ^ p) = k then x.2 * y.2 else 0)) := by
    unfold rpA
    rw [cf_fm]
    refine sI_cg fun x _ => ?_
    unfold ldL
    rw [List.map_map, cf_mp]
    rfl
  have e2 : cf (rpB f b p d e) k = sI (lds f p d) (fun x => sI b (fun y => if (x.1 - e * 256 ^ p) + y.1 = k then -x.2 * y.2 else 0)) := by
    unfold rpB ldL
    rw [cf_fm, sI_map]
    refine sI_cg fun x hx => ?_
    rw [cf_mp]
    refine sI_cg fun y _ => ?_
    have := hld x hx
    show (if x.1 - d * 256 ^ p + (d - e) * 256 ^ p + y.1 = k then -x.2 * y.2 else 0) = _
    rw [show x.1 - d * 256 ^ p + (d - e) * 256 ^ p + y.1 = x.1 - e * 256 ^ p + y.1 by omega]
  have e3 : cf (prC f b p d e) k = sI (lds b p e) (fun y => sI (nld f p d) (fun x => if x.1 + (y.1 - e * 256 ^ p) = k then x.2 * y.2 else 0)) + sI (lds f p d) (fun x => sI (nld b p e) (fun y => if y.1 + (x.1 - e * 256 ^ p) = k then y.2 * (-x.2) else 0)) := by
    unfold prC
    rw [cf_app, cf_fm, cf_fm]
    congr 1
    · exact sI_cg fun y _ => cf_mp
    · exact sI_cg fun x _ => cf_mp
  have e4 : sI f (fun x => sI (lds b p e) (fun y => if x.1 + (y.1 - e * 256 ^ p) = k then x.2 * y.2 else 0)) = sI (lds f p d) (fun x => sI (lds b p e) (fun y => if x.1 + (y.1 - e * 256 ^ p) = k then x.2 * y.2 else 0)) + sI (nld f p d) (fun x => sI (lds b p e) (fun y => if x.1 + (y.1 - e * 256 ^ p) = k then x.2 * y.2 else 0)) := by
    rw [lds_e (f := f), nld_e (f := f)]
    exact sI_split
  have e5 : sI (lds f p d) (fun x => sI b (fun y => if (x.1 - e * 256 ^ p) + y.1 = k then -x.2 * y.2 else 0)) = sI (lds f p d) (fun x => sI (lds b p e) (fun y => if (x.1 - e * 256 ^ p) + y.1 = k then -x.2 * y.2 else 0)) + sI (lds f p d) (fun x => sI (nld b p e) (fun y => if (x.1 - e * 256 ^ p) + y.1 = k then -x.2 * y.2 else 0)) := by
    rw [← sI_add]
    refine sI_cg fun x _ => ?_
    rw [lds_e (f := b), nld_e (f := b)]
    exact sI_split
  have e6 : sI (lds f p d) (fun x => sI (lds b p e) (fun y => if x.1 + (y.1 - e * 256 ^ p) = k then x.2 * y.2 else 0)) + sI (lds f p d) (fun x => sI (lds b p e) (fun y => if (x.1 - e * 256 ^ p) + y.1 = k then -x.2 * y.2 else 0)) = 0 := by
    rw [← sI_add]
    have : sI (lds f p d) (fun x => sI (lds b p e) (fun y => if x.1 + (y.1 - e * 256 ^ p) = k then x.2 * y.2 else 0) + sI (lds b p e) (fun y => if (x.1 - e * 256 ^ p) + y.1 = k then -x.2 * y.2 else 0)) = sI (lds f p d) (fun _ => 0) := by
      refine sI_cg fun x hx => ?_
      rw [← sI_add]
      have q : sI (lds b p e) (fun y => (if x.1 + (y.1 - e * 256 ^ p) = k then x.2 * y.2 else 0) + (if (x.1 - e * 256 ^ p) + y.1 = k then -x.2 * y.2 else 0)) = sI (lds b p e) (fun _ => 0) := by
        refine sI_cg fun y hy => ?_
        have h1 := hle y hy
        have h2 := hld x hx
        rw [show x.1 - e * 256 ^ p + y.1 = x.1 + (y.1 - e * 256 ^ p) by omega]
        split
        · rw [Int64.neg_mul]
          exact Int64.add_right_neg _
        · rw [Int64.zero_add]
      rw [q, sI_0]
    rw [this, sI_0]
  have e7 : sI (nld f p d) (fun x => sI (lds b p e) (fun y => if x.1 + (y.1 - e * 256 ^ p) = k then x.2 * y.2 else 0)) = sI (lds b p e) (fun y => sI (nld f p d) (fun x => if x.1 + (y.1 - e * 256 ^ p) = k then x.2 * y.2 else 0)) := sI_swap
  have e8 : sI (lds f p d) (fun x => sI (nld b p e) (fun y => if (x.1 - e * 256 ^ p) + y.1 = k then -x.2 * y.2 else 0)) = sI (lds f p d) (fun x => sI (nld b p e) (fun y => if y.1 + (x.1 - e * 256 ^ p) = k then y.2 * (-x.2) else 0)) := by
    refine sI_cg fun x _ => sI_cg fun y _ => ?_
    rw [Nat.add_comm, Int64.mul_comm]
  rw [e1, e2, e3, e4, e5, e7, e8]
  generalize sI (lds f p d) (fun x => sI (lds b p e) (fun y => if x.1 + (y.1 - e * 256 ^ p) = k then x.2 * y.2 else 0)) = A at e6 ⊢
  generalize sI (lds f p d) (fun x => sI (lds b p e) (fun y => if (x.1 - e * 256 ^ p) + y.1 = k then -x.2 * y.2 else 0)) = C at e6 ⊢
  generalize sI (lds b p e) (fun y => sI (nld f p d) (fun x => if x.1 + (y.1 - e * 256 ^ p) = k then x.2 * y.2 else 0)) = B
  generalize sI (lds f p d) (fun x => sI (nld b p e) (fun y => if y.1 + (x.1 - e * 256 ^ p) = k then y.2 * (-x.2) else 0)) = E
  have : A + B + (C + E) = (A + C) + (B + E) := by ac_rfl
  rw [this, e6, Int64.zero_add]
