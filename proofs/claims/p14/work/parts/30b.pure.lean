/-! What is computed, told of sums alone: keys by places as numbers, the greatest first. -/
abbrev Po := List (Nat × Int64)
def dgP (f : Po) (p : Nat) : Nat := f.foldl (fun d x => if d < dgt x.1 p then dgt x.1 p else d) 0
def mpP (fr : Nat → Bool) (f : Po) : Nat → Int
  | 0 => -1
  | p + 1 => if fr p = false ∧ 0 < dgP f p then (p : Int) else mpP fr f p
def gcP (f : Po) : Nat := f.foldl (fun g x => Nat.gcd g x.2.toInt.natAbs) 0
def sgP (f : Po) : Int := match f with
  | [] => 1
  | x :: _ => if x.2.toInt < 0 then -(gcP f : Int) else (gcP f : Int)
def prP (f : Po) : Po := f.map fun x => (x.1, x.2 / Int64.ofInt (sgP f))
def cf (l : Po) (k : Nat) : Int64 := l.foldr (fun x s => (if x.1 = k then x.2 else 0) + s) 0
def lds (f : Po) (p d : Nat) : Po := f.filter fun x => dgt x.1 p = d
def nld (f : Po) (p d : Nat) : Po := f.filter fun x => ¬ dgt x.1 p = d
def prC (f b : Po) (p d e : Nat) : Po := ((lds b p e).flatMap fun y => (nld f p d).map fun x => (x.1 + (y.1 - e * 256 ^ p), x.2 * y.2)) ++ ((lds f p d).flatMap fun x => (nld b p e).map fun y => (y.1 + (x.1 - e * 256 ^ p), y.2 * (-x.2)))
def nrm (l : Po) : Prop := l.Pairwise (fun x y => y.1 < x.1) ∧ ∀ x, x ∈ l → x.2 ≠ 0
def sm1 (x : Nat × Int64) : Prop := (-67108864 ≤ x.2.toInt ∧ x.2.toInt ≤ 67108864) ∧ ∀ p, p < 8 → dgt x.1 p ≤ 15
def snP (l : Po) : Prop := l.length ≤ 60 ∧ ∀ x, x ∈ l → sm1 x
def stR (f b : Po) (p d e : Nat) (R : Po) : Prop := nrm R ∧ ∀ k, cf R k = cf (prC f b p d e) k
noncomputable def stP (f b : Po) (p d e : Nat) : Option Po := @dite _ (∃ R, stR f b p d e R ∧ snP R) (Classical.propDecidable _) (fun h => some (Classical.choose h)) (fun _ => none)
/-- REDUCES: k steps more may be made, by the members below m -/
noncomputable def rdP (S : Nat → Po × Nat × Nat) : Nat → Nat → Po → Bool × Nat × Po
  | _, 0, f => (true, 0, f)
  | 0, m + 1, f => if f ≠ [] ∧ (S m).2.2 ≤ dgP f (S m).2.1 then (false, 0, f) else rdP S 0 m f
  | k + 1, m + 1, f => if f ≠ [] ∧ (S m).2.2 ≤ dgP f (S m).2.1 then
      match stP f (S m).1 (S m).2.1 (dgP f (S m).2.1) (S m).2.2 with
      | none => (false, 0, f)
      | some g => let r := rdP S k (m + 1) g; (r.1, r.2.1 + 1, r.2.2)
    else rdP S (k + 1) m f
termination_by k m => (k, m)
section DC
variable (fr : Nat → Bool) (nv : Nat)
def plP (f : Po) : Int := mpP fr f nv
def dmP (f : Po) : Nat := dgP f (plP fr nv f).toNat
def ltP (a b : Po) : Bool := if plP fr nv a ≠ plP fr nv b then decide (plP fr nv a < plP fr nv b) else if dmP fr nv a ≠ dmP fr nv b then decide (dmP fr nv a < dmP fr nv b) else decide (a.length < b.length)
/-- B: the members so far, the last of them first -/
def ftP (R : Nat → Po) (B : List Nat) (r : Nat) : Bool := (match B with
  | [] => true
  | b :: _ => decide (plP fr nv (R b) < plP fr nv (R r))) && B.all fun b => decide (dgP (R r) (plP fr nv (R b)).toNat < dmP fr nv (R b))
def lsP (R : Nat → Po) (B : List Nat) : Nat → Option Nat
  | 0 => none
  | r + 1 => if ftP fr nv R B r = true then (match lsP R B r with
      | none => some r
      | some b => if ltP fr nv (R r) (R b) = true then some r else some b) else lsP R B r
def bsP (R : Nat → Po) (c : Nat) : Nat → List Nat → List Nat
  | 0, B => B
  | k + 1, B => match lsP fr nv R B c with
    | none => B
    | some r => bsP R c k (r :: B)
/-- member m of the triangle: B has the last first -/
def mbP (R : Nat → Po) (B : List Nat) (m : Nat) : Po × Nat × Nat := let f := R (B.reverse.getD m 0); (f, (plP fr nv f).toNat, dmP fr nv f)
def u1P (R : Nat → Po) (i : Nat) (f : Po) : Nat → Po := fun j => if j = i then f else R j
/-- from row r on, had rows at the round's beginning; answers 3 where the round comes to its end -/
noncomputable def rwP (B : List Nat) (had : Nat) : Nat → Nat → (Nat → Po) → Nat → Nat → Int × (Nat → Po) × Nat × Nat × Option Po
  | 0, _, R, c, s => (3, R, c, s, none)
  | n + 1, r, R, c, s => if r ∈ B then rwP B had n (r + 1) R c s else
    let q := rdP (mbP fr nv R B) (min 200 (1000 - s)) B.length (R r)
    if q.1 = false then (2, R, c, s + q.2.1, none) else
    let g := prP q.2.2
    if g = [] ∨ ((List.range c).any fun j => decide (R j = g)) = true then rwP B had n (r + 1) R c (s + q.2.1) else
    if plP fr nv g = -1 then (0, R, c, s + q.2.1, some g) else
    if 40 ≤ c then (2, R, c, s + q.2.1, none) else
    rwP B had n (r + 1) (u1P R c g) (c + 1) (s + q.2.1)
noncomputable def rnP (R : Nat → Po) (c s : Nat) : Int × (Nat → Po) × Nat × Nat × Option Po :=
  let q := rwP fr nv (bsP fr nv R c 8 []) c c 0 R c s
  if q.1 = 3 then (if q.2.2.1 = c then 1 else 3, q.2) else q
/-- n rounds more -/
noncomputable def dcP : Nat → (Nat → Po) → Nat → Nat → Int × (Nat → Po) × Nat × Nat × Option Po
  | 0, R, c, s => (2, R, c, s, none)
  | n + 1, R, c, s => let q := rnP fr nv R c s; if q.1 = 3 then dcP n q.2.1 q.2.2.1 q.2.2.2.1 else q
end DC
