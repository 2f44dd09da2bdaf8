/-! A run by fuel, to a given place of the method, for the kernel to compute; it is what the machine reaches. -/
def vm_run (stop : Nat) : Nat → Nat → Nat → Nat → vm_F → vm_H → Option (vm_F × vm_H × Nat × Nat)
  | 0, _, _, _, _, _ => none
  | f + 1, d, w, k, fr, vh => if fr.1 = stop then some (fr, vh, 0, 0) else match vm_rt k fr with
    | some _ => some (fr, vh, 0, 0)
    | none => match vm_st k fr vh with
      | some (fr1, vh1, a, c) => (match vm_run stop f d w k fr1 vh1 with
        | some (fr2, vh2, n, s) => some (fr2, vh2, a + n, c + s)
        | none => none)
      | none => match vm_nt k fr vh with
        | some (fr1, vh1) => if 1 ≤ d ∧ 30 ≤ w then vm_run stop f d w k fr1 vh1 else none
        | none => match vm_cl k fr vh with
          | some (j, as, fr1) => if 1 ≤ d ∧ 19 + vm_max j ≤ w then (match vm_run 100000 f (d - 1) (w - (19 + vm_max j)) j (0, lv_args 0 as, []) vh with
            | some (frR, vh1, n1, s1) => (match vm_rt j frR with
              | some r => (match vm_run stop f d w k (fr1.1, fr1.2.1, r.toList ++ fr1.2.2) vh1 with
                | some (fr2, vh2, n2, s2) => some (fr2, vh2, n1 + n2, s1 + s2)
                | none => none)
              | none => none)
            | none => none) else none
          | none => none
theorem vm_run_go : ∀ (f stop d w k : Nat) (fr : vm_F) (vh : vm_H) (o : vm_F × vm_H × Nat × Nat), vm_run stop f d w k fr vh = some o → vm_Go d w k fr vh o := by
  intro f
  induction f with
  | zero => intro stop d w k fr vh o h; cases h
  | succ f ih =>
    intro stop d w k fr vh o h
    unfold vm_run at h
    split at h
    next => cases h; exact vm_Go.rf
    next =>
      split at h
      next => cases h; exact vm_Go.rf
      next =>
        split at h
        next fr1 vh1 a c hst =>
          split at h
          next fr2 vh2 n s hr =>
            cases h
            exact vm_Go.st (o := (fr2, vh2, n, s)) hst (ih _ _ _ _ _ _ _ hr)
          next => cases h
        next =>
          split at h
          next fr1 vh1 hnt =>
            split at h
            next hg => exact vm_Go.nt hnt hg.1 hg.2 (ih _ _ _ _ _ _ _ h)
            next => cases h
          next =>
            split at h
            next j as fr1 hcl =>
              split at h
              next hg =>
                split at h
                next frR vh1 n1 s1 hr1 =>
                  split at h
                  next r hrt =>
                    split at h
                    next fr2 vh2 n2 s2 hr2 =>
                      cases h
                      exact vm_Go.cl hcl (by omega) (by omega) (ih _ _ _ _ _ _ _ hr1) hrt (ih _ _ _ _ _ _ _ hr2)
                    next => cases h
                  next => cases h
                next => cases h
              next => cases h
            next => cases h
