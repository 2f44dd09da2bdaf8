theorem pr_at {vh : vm_H} : ∀ {ds : List (Nat × Nat × Nat × List Value)} {vh : vm_H}, pr_all vh ds = true → ∀ (n : Nat) (q : Nat × Nat × Nat × List Value), ds[n]? = some q → ∃ c, vh[n]? = some c ∧ pr_c1 c q = true := by
  intro ds
  induction ds with
  | nil => intro vh h n q hq; simp at hq
  | cons a r ih =>
    intro vh h n q hq
    cases vh with
    | nil => cases h
    | cons c s =>
      have h1 : pr_c1 c a = true ∧ pr_all s r = true := by simpa [pr_all] using h
      cases n with
      | zero => cases hq; exact ⟨c, rfl, h1.1⟩
      | succ n => exact ih h1.2 n q hq
theorem pr_obj {c : Option va_E} {ci w : Nat} {fs : List Value} (h : pr_c1 c (0, ci, w, fs) = true) : c = some (.inr (ci, fs)) := by
  unfold pr_c1 at h
  split at h
  · cases h
  next ci' fs' =>
    simp only [Bool.and_eq_true, decide_eq_true_eq] at h
    rw [show fs' = fs from h.2, show ci' = ci from by simpa using h.1.2]
  · cases h
  · cases h
  · cases h
  · cases h
theorem pr_ai {c : Option va_E} {t w : Nat} {fs : List Value} (h : pr_c1 c (1, t, w, fs) = true) : ∃ f, c = some (.inl (t, w, .inl f)) := by
  unfold pr_c1 at h
  split at h
  · cases h
  · cases h
  next t' n' f =>
    simp only [Bool.and_eq_true] at h
    exact ⟨f, by rw [show t' = t from by simpa using h.1.2, show n' = w from by simpa using h.2]⟩
  · cases h
  · cases h
  · cases h
theorem pr_al {c : Option va_E} {t w : Nat} {fs : List Value} (h : pr_c1 c (2, t, w, fs) = true) : ∃ f, c = some (.inl (t, w, .inr (.inl f))) := by
  unfold pr_c1 at h
  split at h
  · cases h
  · cases h
  · cases h
  next t' n' f =>
    simp only [Bool.and_eq_true] at h
    exact ⟨f, by rw [show t' = t from by simpa using h.1.2, show n' = w from by simpa using h.2]⟩
  · cases h
  · cases h
theorem pr_aq {c : Option va_E} {t w : Nat} {fs : List Value} (h : pr_c1 c (3, t, w, fs) = true) : ∃ f, c = some (.inl (t, w, .inr (.inr (.inr (.inr f))))) := by
  unfold pr_c1 at h
  split at h
  · cases h
  · cases h
  · cases h
  · cases h
  next t' n' f =>
    simp only [Bool.and_eq_true] at h
    exact ⟨f, by rw [show t' = t from by simpa using h.1.2, show n' = w from by simpa using h.2]⟩
  · cases h
/-- what is told of the cells at the loop's head -/
def pr_H (vh : vm_H) : Prop := ((∀ (n ci w : Nat) (fs : List Value), pr_D[n]? = some (0, ci, w, fs) → vm_at vh n = some (.inr (ci, fs))) ∧ (∀ (n t w : Nat) (fs : List Value), pr_D[n]? = some (1, t, w, fs) → ∃ f, vm_at vh n = some (.inl (t, w, .inl f))) ∧ (∀ (n t w : Nat) (fs : List Value), pr_D[n]? = some (2, t, w, fs) → ∃ f, vm_at vh n = some (.inl (t, w, .inr (.inl f)))) ∧ ∀ (n t w : Nat) (fs : List Value), pr_D[n]? = some (3, t, w, fs) → ∃ f, vm_at vh n = some (.inl (t, w, .inr (.inr (.inr (.inr f)))))) ∧ pr_z vh 5 1 8 = true ∧ pr_z vh 240 1 8 = true ∧ pr_z vh 242 1 72 = true ∧ pr_z vh 259 128 128 = true ∧ pr_f vh 6 16 7 3 = true ∧ pr_f vh 56 40 57 4 = true ∧ pr_z vh 3 1 8 = true ∧ pr_z vh 55 1 16 = true ∧ pr_z vh 239 1 8 = true ∧ pr_z vh 241 1 16 = true ∧ pr_y vh 4 8 = true ∧ pr_y vh 245 8 = true
theorem pr_zt {v v2 : vm_H} {n a b : Nat} (h : pr_z v n a b = true) (e : ∀ c, vm_at v n = some c → vm_at v2 n = some c) : pr_z v2 n a b = true := by
  unfold pr_z at h ⊢
  split at h
  next t m f hf => rw [e _ hf]; exact h
  next => cases h
theorem pr_yt {v v2 : vm_H} {n a : Nat} (h : pr_y v n a = true) (e : ∀ c, vm_at v n = some c → vm_at v2 n = some c) : pr_y v2 n a = true := by
  unfold pr_y at h ⊢
  split at h
  next t m f hf => rw [e _ hf]; exact h
  next => cases h
theorem pr_ft {v v2 : vm_H} {n a b c : Nat} (h : pr_f v n a b c = true) (e : ∀ d, vm_at v n = some d → vm_at v2 n = some d) : pr_f v2 n a b c = true := by
  unfold pr_f at h ⊢
  split at h
  next t m f hf => rw [e _ hf]; exact h
  next => cases h
/-- from the entry to the loop's head, over any script -/
theorem pr_go (sc : va_E) : ∃ vh, vm_Go 9 400 0 (0, [(0, .ref 0)], []) [some sc] ((23, pr_L, []), vh, 263, 138998) ∧ vh[0]? = some (some sc) ∧ pr_H vh := by
  have h := pr_ok
  unfold pr_chk at h
  split at h
  next fr vh nc ns hr =>
    simp only [Bool.and_eq_true, decide_eq_true_eq] at h
    obtain ⟨⟨⟨⟨rfl, rfl⟩, rfl⟩, ha⟩, ⟨⟨⟨⟨⟨⟨⟨⟨⟨⟨q1, q2⟩, q3⟩, q4⟩, q5⟩, q6⟩, q7⟩, q8⟩, q9⟩, q10⟩, q11⟩, q12⟩ := h
    obtain ⟨h2, g2, k2⟩ := vm_frame (vm_run_go _ _ _ _ _ _ _ _ hr) [some sc] ⟨rfl, fun n c hn => by
      cases n with
      | zero => cases hn
      | succ n => cases hn⟩
    have key : ∀ (n : Nat) (c : va_E), vh[n]? = some (some c) → vm_at h2 n = some c := fun n c hc => k2.1.2 n c (by unfold vm_at; rw [hc])
    have key2 : ∀ (n : Nat) (c : va_E), vm_at vh n = some c → vm_at h2 n = some c := fun n c hc => k2.1.2 n c hc
    refine ⟨h2, g2, (k2.2.2 0 (by show 0 < 1; omega) rfl).2, ⟨fun n ci w fs hq => ?_, fun n t w fs hq => ?_, fun n t w fs hq => ?_, fun n t w fs hq => ?_⟩, pr_zt q1 (key2 5), pr_zt q2 (key2 240), pr_zt q3 (key2 242), pr_zt q4 (key2 259), pr_ft q5 (key2 6), pr_ft q6 (key2 56), pr_zt q7 (key2 3), pr_zt q8 (key2 55), pr_zt q9 (key2 239), pr_zt q10 (key2 241), pr_yt q11 (key2 4), pr_yt q12 (key2 245)⟩
    · obtain ⟨c, h3, h4⟩ := pr_at (vh := vh) ha n _ hq
      rw [pr_obj h4] at h3
      exact key n _ h3
    · obtain ⟨c, h3, h4⟩ := pr_at (vh := vh) ha n _ hq
      obtain ⟨f, rfl⟩ := pr_ai h4
      exact ⟨f, key n _ h3⟩
    · obtain ⟨c, h3, h4⟩ := pr_at (vh := vh) ha n _ hq
      obtain ⟨f, rfl⟩ := pr_al h4
      exact ⟨f, key n _ h3⟩
    · obtain ⟨c, h3, h4⟩ := pr_at (vh := vh) ha n _ hq
      obtain ⟨f, rfl⟩ := pr_aq h4
      exact ⟨f, key n _ h3⟩
  next => cases h
