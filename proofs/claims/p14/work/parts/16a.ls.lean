/-! What a row of pairs holds, in whatever order. -/
def ls {α : Type} (g : Nat → α) : Nat → List α
  | 0 => []
  | n + 1 => ls g n ++ [g n]
section LS
variable {α β : Type} {g h : Nat → α}
theorem ls_cg : ∀ n : Nat, (∀ t, t < n → g t = h t) → ls g n = ls h n := by
  intro n
  induction n with
  | zero => intro _; rfl
  | succ n ih =>
    intro q
    show ls g n ++ [g n] = ls h n ++ [h n]
    rw [ih fun t ht => q t (by omega), q n (by omega)]
theorem ls_len (g : Nat → α) : ∀ n : Nat, (ls g n).length = n := by
  intro n
  induction n with
  | zero => rfl
  | succ n ih => show (ls g n ++ [g n]).length = n + 1; rw [List.length_append, ih]; rfl
theorem ls_mem {x : α} : ∀ n : Nat, x ∈ ls g n ↔ ∃ t, t < n ∧ g t = x := by
  intro n
  induction n with
  | zero => exact ⟨fun q => (by cases q), fun ⟨t, ht, _⟩ => (by omega)⟩
  | succ n ih =>
    show x ∈ ls g n ++ [g n] ↔ _
    rw [List.mem_append, ih, List.mem_singleton]
    constructor
    · rintro (⟨t, ht, e⟩ | e)
      · exact ⟨t, by omega, e⟩
      · exact ⟨n, by omega, e.symm⟩
    · rintro ⟨t, ht, e⟩
      by_cases q : t = n
      · exact Or.inr (by rw [← e, q])
      · exact Or.inl ⟨t, by omega, e⟩
theorem ls_map (f : α → β) : ∀ n : Nat, (ls g n).map f = ls (fun t => f (g t)) n := by
  intro n
  induction n with
  | zero => rfl
  | succ n ih =>
    show (ls g n ++ [g n]).map f = _
    rw [List.map_append, ih]
    rfl
/-- two neighbours change places -/
theorem ls_swap {j : Nat} (h1 : h j = g (j + 1)) (h2 : h (j + 1) = g j) (ho : ∀ t, t ≠ j → t ≠ j + 1 → h t = g t) : ∀ n : Nat, j + 1 < n → (ls h n).Perm (ls g n) := by
  intro n
  induction n with
  | zero => intro q; omega
  | succ n ih =>
    intro q
    by_cases e : j + 1 = n
    · subst e
      have e1 : ls h j = ls g j := ls_cg j fun t ht => ho t (by omega) (by omega)
      show ((ls h j ++ [h j]) ++ [h (j + 1)]).Perm ((ls g j ++ [g j]) ++ [g (j + 1)])
      rw [e1, h1, h2, List.append_assoc, List.append_assoc]
      exact List.Perm.append_left _ (List.Perm.swap _ _ _)
    · have p := ih (by omega)
      show (ls h n ++ [h n]).Perm (ls g n ++ [g n])
      rw [ho n (by omega) (by omega)]
      exact p.append_right _
/-- one more comes in at a place -/
theorem ls_ins {j : Nat} {x : α} (h0 : ∀ t, t < j → h t = g t) (h1 : h j = x) (h2 : ∀ t, j ≤ t → h (t + 1) = g t) : ∀ n : Nat, j ≤ n → (ls h (n + 1)).Perm (x :: ls g n) := by
  intro n
  induction n with
  | zero =>
    intro q
    have e : j = 0 := by omega
    subst e
    show ([] ++ [h 0]).Perm [x]
    rw [h1]
    exact List.Perm.refl _
  | succ n ih =>
    intro q
    by_cases e : j = n + 1
    · subst e
      have e1 : ls h (n + 1) = ls g (n + 1) := ls_cg _ fun t ht => h0 t (by omega)
      show (ls h (n + 1) ++ [h (n + 1)]).Perm (x :: ls g (n + 1))
      rw [e1, h1]
      exact List.perm_append_singleton x _
    · have p := ih (by omega)
      show (ls h (n + 1) ++ [h (n + 1)]).Perm (x :: (ls g n ++ [g n]))
      rw [h2 n (by omega)]
      exact p.append_right [g n]
/-- one place holds another -/
theorem ls_upd {j : Nat} {x : α} (h1 : h j = x) (ho : ∀ t, t ≠ j → h t = g t) : ∀ n : Nat, j < n → ∃ r : List α, (ls h n).Perm (x :: r) ∧ (ls g n).Perm (g j :: r) := by
  intro n
  induction n with
  | zero => intro q; omega
  | succ n ih =>
    intro q
    by_cases e : j = n
    · subst e
      have e1 : ls h j = ls g j := ls_cg _ fun t ht => ho t (by omega)
      refine ⟨ls g j, ?_, ?_⟩
      · show (ls h j ++ [h j]).Perm _
        rw [e1, h1]
        exact List.perm_append_singleton x _
      · exact List.perm_append_singleton _ _
    · obtain ⟨r, p1, p2⟩ := ih (by omega)
      refine ⟨r ++ [g n], ?_, ?_⟩
      · show (ls h n ++ [h n]).Perm _
        rw [ho n (by omega)]
        exact p1.append_right _
      · exact p2.append_right _
end LS
