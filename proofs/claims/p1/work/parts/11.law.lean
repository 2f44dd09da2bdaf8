set_option maxRecDepth 100000 in
set_option maxHeartbeats 8000000 in
theorem law_s0 {vh : vm_H} {xs : Nat → Int32} (h0 : vm_at vh 0 = some (.inl (0, 0, .inl xs)))  : vm_Wp 9 400 0 (23, pr_L, []) vh (fun fr _ => fr.1 = 807 ∧ fr.2.2 = [.int 1]) := by
  refine w_x e0_23 rfl ?_
  refine w_x e0_25 rfl ?_
  refine w_len e0_26 h0 (by decide) ?_
  refine w_x e0_27 rfl ?_
  refine w_x e0_28 rfl ?_
  refine w_ic1 e0_29 (by decide) ?_
  refine w_x e0_806 rfl ?_
  exact w_end ⟨rfl, rfl⟩
set_option maxRecDepth 100000 in
set_option maxHeartbeats 8000000 in
theorem law_s1 {vh : vm_H} {xs : Nat → Int32} (h0 : vm_at vh 0 = some (.inl (0, 1, .inl xs)))  : vm_Wp 9 400 0 (23, pr_L, []) vh (fun fr _ => fr.1 = 807 ∧ fr.2.2 = [.int 1]) := by
  refine w_x e0_23 rfl ?_
  refine w_x e0_25 rfl ?_
  refine w_len e0_26 h0 (by decide) ?_
  refine w_x e0_27 rfl ?_
  refine w_x e0_28 rfl ?_
  refine w_ic1 e0_29 (by decide) ?_
  refine w_x e0_806 rfl ?_
  exact w_end ⟨rfl, rfl⟩
set_option maxRecDepth 100000 in
set_option maxHeartbeats 8000000 in
theorem law_s2 {vh : vm_H} {xs : Nat → Int32} (h0 : vm_at vh 0 = some (.inl (0, 2, .inl xs)))  : vm_Wp 9 400 0 (23, pr_L, []) vh (fun fr _ => fr.1 = 807 ∧ fr.2.2 = [.int 1]) := by
  refine w_x e0_23 rfl ?_
  refine w_x e0_25 rfl ?_
  refine w_len e0_26 h0 (by decide) ?_
  refine w_x e0_27 rfl ?_
  refine w_x e0_28 rfl ?_
  refine w_ic1 e0_29 (by decide) ?_
  refine w_x e0_806 rfl ?_
  exact w_end ⟨rfl, rfl⟩
set_option maxRecDepth 100000 in
set_option maxHeartbeats 8000000 in
theorem law_s3 {vh : vm_H} {xs : Nat → Int32} (h0 : vm_at vh 0 = some (.inl (0, 3, .inl xs)))  : vm_Wp 9 400 0 (23, pr_L, []) vh (fun fr _ => fr.1 = 807 ∧ fr.2.2 = [.int 1]) := by
  refine w_x e0_23 rfl ?_
  refine w_x e0_25 rfl ?_
  refine w_len e0_26 h0 (by decide) ?_
  refine w_x e0_27 rfl ?_
  refine w_x e0_28 rfl ?_
  refine w_ic1 e0_29 (by decide) ?_
  refine w_x e0_806 rfl ?_
  exact w_end ⟨rfl, rfl⟩
set_option maxRecDepth 100000 in
set_option maxHeartbeats 8000000 in
theorem law_s4 {vh : vm_H} {xs : Nat → Int32} (h0 : vm_at vh 0 = some (.inl (0, 4, .inl xs)))  : vm_Wp 9 400 0 (23, pr_L, []) vh (fun fr _ => fr.1 = 807 ∧ fr.2.2 = [.int 1]) := by
  refine w_x e0_23 rfl ?_
  refine w_x e0_25 rfl ?_
  refine w_len e0_26 h0 (by decide) ?_
  refine w_x e0_27 rfl ?_
  refine w_x e0_28 rfl ?_
  refine w_ic1 e0_29 (by decide) ?_
  refine w_x e0_806 rfl ?_
  exact w_end ⟨rfl, rfl⟩
set_option maxRecDepth 100000 in
set_option maxHeartbeats 8000000 in
theorem law_5 {vh : vm_H} {xs : Nat → Int32} (h0 : vm_at vh 0 = some (.inl (0, 5, .inl xs))) (h1 : vm_at vh 1 = some (.inr (5, [.ref 2, .ref 6, .ref 55, .int 0, .ref 56, .int 0, .ref 217, .ref 219, .ref 224, .ref 227, .ref 230, .ref 233, .ref 234, .ref 237, .int 0, .int 0, .int 0, .int 0]))) (h2 : vm_at vh 2 = some (.inr (0, [.int 0, .ref 3, .ref 4, .ref 5]))) {f3 : Nat → Int32} (h3 : vm_at vh 3 = some (.inl (2, 8, .inl f3))) {f5 : Nat → Int32} (h5 : vm_at vh 5 = some (.inl (0, 8, .inl f5))) (h217 : vm_at vh 217 = some (.inr (4, [.ref 218, .int 0]))) (h224 : vm_at vh 224 = some (.inr (1, [.ref 225, .ref 226, .int 0]))) (h227 : vm_at vh 227 = some (.inr (1, [.ref 228, .ref 229, .int 0]))) (h230 : vm_at vh 230 = some (.inr (1, [.ref 231, .ref 232, .int 0]))) {f233 : Nat → Int32} (h233 : vm_at vh 233 = some (.inl (0, 8, .inl f233))) (h238 : vm_at vh 238 = some (.inr (6, [.int 0, .int 0, .ref 239, .ref 240, .int 0, .ref 241, .ref 242, .ref 243, .ref 244, .ref 245, .int 0, .int 0, .int 0, .int 0, .int 0, .int 0, .int 0, .int 0, .int 0, .int 0, .ref 246, .ref 247, .ref 248, .ref 249, .ref 250, .int 0, .ref 251, .int 0, .int 0, .ref 252, .ref 253, .ref 254, .ref 255, .ref 256, .ref 257, .ref 258, .ref 259, .ref 260, .int 0, .ref 261, .int 0, .int 0, .int 0, .ref 262]))) {f239 : Nat → Int32} (h239 : vm_at vh 239 = some (.inl (2, 8, .inl f239))) {f240 : Nat → Int32} (h240 : vm_at vh 240 = some (.inl (0, 8, .inl f240))) {f241 : Nat → Int32} (h241 : vm_at vh 241 = some (.inl (2, 16, .inl f241))) {f242 : Nat → Int32} (h242 : vm_at vh 242 = some (.inl (0, 72, .inl f242))) : vm_Wp 9 400 0 (23, pr_L, []) vh (fun fr vh1 => (fr.1 = 807 ∧ fr.2.2 = [.int 1]) ∨ (fr = (715, pr_L, [.ref 263, .long (p_b xs), .long (p_a xs), .ref 1]) ∧ vh1 = vh)) := by
  refine w_x e0_23 rfl ?_
  refine w_x e0_25 rfl ?_
  refine w_len e0_26 h0 (by decide) ?_
  refine w_x e0_27 rfl ?_
  refine w_x e0_28 rfl ?_
  refine w_ic0 e0_29 (by decide) ?_
  refine w_x e0_32 rfl ?_
  refine w_x e0_33 rfl ?_
  refine w_ald e0_35 h0 (by decide) ?_
  refine w_x e0_36 rfl ?_
  refine w_x e0_38 rfl ?_
  refine w_swb 14 (fun hsw => ?_) (fun j1 hj ej => ?_)
  · refine w_swO e0_39 hsw rfl ?_
    refine w_x e0_800 rfl ?_
    refine w_x e0_803 rfl ?_
    refine w_x e0_23 rfl ?_
    refine w_x e0_25 rfl ?_
    refine w_len e0_26 h0 (by decide) ?_
    refine w_x e0_27 rfl ?_
    refine w_x e0_28 rfl ?_
    refine w_ic1 e0_29 (by decide) ?_
    refine w_x e0_806 rfl ?_
    exact w_end (Or.inl ⟨rfl, rfl⟩)
  · match j1, hj, ej with
    | 0, _, ej =>
      refine w_swI e0_39 (by decide) rfl rfl ?_
      refine w_x e0_112 rfl ?_
      refine w_x e0_113 rfl ?_
      refine w_x e0_114 rfl ?_
      refine w_x e0_116 rfl ?_
      refine w_x e0_117 rfl ?_
      refine w_ald e0_118 h0 (by decide) ?_
      refine w_ifb e0_119 (fun c2 => ?_) (fun c2 => ?_)
      ·
        refine w_x e0_126 rfl ?_
        refine w_cv (d1 := 2) (w1 := 43) e0_127 rfl h1 rfl (Nat.le_of_ble_eq_true rfl) (Nat.le_of_ble_eq_true rfl) (Nat.le_of_ble_eq_true rfl) (by decide) (by decide) (m_X5_variable h1 h2 h3 h5 h217 h227 h230 h233 _) (fun rv3 v3 q4 => ?_)
        obtain ⟨rfl, q4⟩ := q4
        have h1 := (q4 1 (by decide) (by decide) (by decide) (by decide) (by decide) (by decide) (by decide)).trans h1
        have h224 := (q4 224 (by decide) (by decide) (by decide) (by decide) (by decide) (by decide) (by decide)).trans h224
        have h238 := (q4 238 (by decide) (by decide) (by decide) (by decide) (by decide) (by decide) (by decide)).trans h238
        have h239 := (q4 239 (by decide) (by decide) (by decide) (by decide) (by decide) (by decide) (by decide)).trans h239
        have h240 := (q4 240 (by decide) (by decide) (by decide) (by decide) (by decide) (by decide) (by decide)).trans h240
        have h241 := (q4 241 (by decide) (by decide) (by decide) (by decide) (by decide) (by decide) (by decide)).trans h241
        have h242 := (q4 242 (by decide) (by decide) (by decide) (by decide) (by decide) (by decide) (by decide)).trans h242
        have h0 := (q4 0 (by decide) (by decide) (by decide) (by decide) (by decide) (by decide) (by decide)).trans h0
        refine w_x e0_130 rfl ?_
        refine w_x e0_131 rfl ?_
        refine w_x e0_132 rfl ?_
        refine w_x e0_134 rfl ?_
        refine w_x e0_135 rfl ?_
        refine w_ald e0_136 h0 (by decide) ?_
        refine w_if1 e0_137 c2 ?_
        refine w_x e0_144 rfl ?_
        refine w_cv (d1 := 1) (w1 := 20) e0_145 rfl h238 rfl (Nat.le_of_ble_eq_true rfl) (Nat.le_of_ble_eq_true rfl) (Nat.le_of_ble_eq_true rfl) (by decide) (by decide) (m_X6_variable h238 h239 h240 _) (fun rv5 v5 q6 => ?_)
        obtain ⟨rfl, q6⟩ := q6
        have h1 := (q6 1 (by decide) (by decide) (by decide)).trans h1
        have h224 := (q6 224 (by decide) (by decide) (by decide)).trans h224
        have h241 := (q6 241 (by decide) (by decide) (by decide)).trans h241
        have h242 := (q6 242 (by decide) (by decide) (by decide)).trans h242
        have h0 := (q6 0 (by decide) (by decide) (by decide)).trans h0
        refine w_ic1 e0_148 (by decide) ?_
        refine w_x e0_800 rfl ?_
        refine w_x e0_803 rfl ?_
        refine w_x e0_23 rfl ?_
        refine w_x e0_25 rfl ?_
        refine w_len e0_26 h0 (by decide) ?_
        refine w_x e0_27 rfl ?_
        refine w_x e0_28 rfl ?_
        refine w_ic1 e0_29 (by decide) ?_
        refine w_x e0_806 rfl ?_
        exact w_end (Or.inl ⟨rfl, rfl⟩)
      ·
        refine w_x e0_122 rfl ?_
        refine w_x e0_123 rfl ?_
        refine w_cv (d1 := 2) (w1 := 43) e0_127 rfl h1 rfl (Nat.le_of_ble_eq_true rfl) (Nat.le_of_ble_eq_true rfl) (Nat.le_of_ble_eq_true rfl) (by decide) (by decide) (m_X5_variable h1 h2 h3 h5 h217 h227 h230 h233 _) (fun rv7 v7 q8 => ?_)
        obtain ⟨rfl, q8⟩ := q8
        have h1 := (q8 1 (by decide) (by decide) (by decide) (by decide) (by decide) (by decide) (by decide)).trans h1
        have h224 := (q8 224 (by decide) (by decide) (by decide) (by decide) (by decide) (by decide) (by decide)).trans h224
        have h238 := (q8 238 (by decide) (by decide) (by decide) (by decide) (by decide) (by decide) (by decide)).trans h238
        have h239 := (q8 239 (by decide) (by decide) (by decide) (by decide) (by decide) (by decide) (by decide)).trans h239
        have h240 := (q8 240 (by decide) (by decide) (by decide) (by decide) (by decide) (by decide) (by decide)).trans h240
        have h241 := (q8 241 (by decide) (by decide) (by decide) (by decide) (by decide) (by decide) (by decide)).trans h241
        have h242 := (q8 242 (by decide) (by decide) (by decide) (by decide) (by decide) (by decide) (by decide)).trans h242
        have h0 := (q8 0 (by decide) (by decide) (by decide) (by decide) (by decide) (by decide) (by decide)).trans h0
        refine w_x e0_130 rfl ?_
        refine w_x e0_131 rfl ?_
        refine w_x e0_132 rfl ?_
        refine w_x e0_134 rfl ?_
        refine w_x e0_135 rfl ?_
        refine w_ald e0_136 h0 (by decide) ?_
        refine w_if0 e0_137 c2 ?_
        refine w_x e0_140 rfl ?_
        refine w_x e0_141 rfl ?_
        refine w_cv (d1 := 1) (w1 := 20) e0_145 rfl h238 rfl (Nat.le_of_ble_eq_true rfl) (Nat.le_of_ble_eq_true rfl) (Nat.le_of_ble_eq_true rfl) (by decide) (by decide) (m_X6_variable h238 h239 h240 _) (fun rv9 v9 q10 => ?_)
        obtain ⟨rfl, q10⟩ := q10
        have h1 := (q10 1 (by decide) (by decide) (by decide)).trans h1
        have h224 := (q10 224 (by decide) (by decide) (by decide)).trans h224
        have h241 := (q10 241 (by decide) (by decide) (by decide)).trans h241
        have h242 := (q10 242 (by decide) (by decide) (by decide)).trans h242
        have h0 := (q10 0 (by decide) (by decide) (by decide)).trans h0
        refine w_ic1 e0_148 (by decide) ?_
        refine w_x e0_800 rfl ?_
        refine w_x e0_803 rfl ?_
        refine w_x e0_23 rfl ?_
        refine w_x e0_25 rfl ?_
        refine w_len e0_26 h0 (by decide) ?_
        refine w_x e0_27 rfl ?_
        refine w_x e0_28 rfl ?_
        refine w_ic1 e0_29 (by decide) ?_
        refine w_x e0_806 rfl ?_
        exact w_end (Or.inl ⟨rfl, rfl⟩)
    | 1, _, ej =>
      refine w_swI e0_39 (by decide) rfl rfl ?_
      refine w_x e0_153 rfl ?_
      refine w_x e0_154 rfl ?_
      refine w_x e0_155 rfl ?_
      refine w_x e0_157 rfl ?_
      refine w_x e0_158 rfl ?_
      refine w_ald e0_159 h0 (by decide) ?_
      refine w_x e0_160 rfl ?_
      refine w_x e0_161 rfl ?_
      refine w_x e0_163 rfl ?_
      refine w_x e0_164 rfl ?_
      refine w_ald e0_165 h0 (by decide) ?_
      refine w_cv (d1 := 1) (w1 := 21) e0_166 rfl h1 rfl (Nat.le_of_ble_eq_true rfl) (Nat.le_of_ble_eq_true rfl) (Nat.le_of_ble_eq_true rfl) (by decide) (by decide) (m_X5_order h1 h2 _ _) (fun rv11 v11 q12 => ?_)
      obtain ⟨rfl, rfl⟩ := q12
      refine w_x e0_169 rfl ?_
      refine w_x e0_170 rfl ?_
      refine w_x e0_171 rfl ?_
      refine w_x e0_173 rfl ?_
      refine w_x e0_174 rfl ?_
      refine w_ald e0_175 h0 (by decide) ?_
      refine w_x e0_176 rfl ?_
      refine w_x e0_177 rfl ?_
      refine w_x e0_179 rfl ?_
      refine w_x e0_180 rfl ?_
      refine w_ald e0_181 h0 (by decide) ?_
      refine w_cv (d1 := 0) (w1 := 0) e0_182 rfl h238 rfl (Nat.le_of_ble_eq_true rfl) (Nat.le_of_ble_eq_true rfl) (Nat.le_of_ble_eq_true rfl) (by decide) (by decide) (m_X6_order h238 _ _) (fun rv13 v13 q14 => ?_)
      obtain ⟨rfl, q14⟩ := q14
      have h1 := (q14 1 (by decide)).trans h1
      have h2 := (q14 2 (by decide)).trans h2
      have h3 := (q14 3 (by decide)).trans h3
      have h5 := (q14 5 (by decide)).trans h5
      have h217 := (q14 217 (by decide)).trans h217
      have h224 := (q14 224 (by decide)).trans h224
      have h227 := (q14 227 (by decide)).trans h227
      have h230 := (q14 230 (by decide)).trans h230
      have h233 := (q14 233 (by decide)).trans h233
      have h239 := (q14 239 (by decide)).trans h239
      have h240 := (q14 240 (by decide)).trans h240
      have h241 := (q14 241 (by decide)).trans h241
      have h242 := (q14 242 (by decide)).trans h242
      have h0 := (q14 0 (by decide)).trans h0
      refine w_ic1 e0_185 (by decide) ?_
      refine w_x e0_800 rfl ?_
      refine w_x e0_803 rfl ?_
      refine w_x e0_23 rfl ?_
      refine w_x e0_25 rfl ?_
      refine w_len e0_26 h0 (by decide) ?_
      refine w_x e0_27 rfl ?_
      refine w_x e0_28 rfl ?_
      refine w_ic1 e0_29 (by decide) ?_
      refine w_x e0_806 rfl ?_
      exact w_end (Or.inl ⟨rfl, rfl⟩)
    | 2, _, ej =>
      refine w_swI e0_39 (by decide) rfl rfl ?_
      refine w_x e0_190 rfl ?_
      refine w_cv (d1 := 0) (w1 := 0) e0_191 rfl h1 rfl (Nat.le_of_ble_eq_true rfl) (Nat.le_of_ble_eq_true rfl) (Nat.le_of_ble_eq_true rfl) (by decide) (by decide) (m_X5_polynomial h1) (fun rv15 v15 q16 => ?_)
      obtain ⟨rfl, q16⟩ := q16
      have h2 := (q16 2 (by decide)).trans h2
      have h3 := (q16 3 (by decide)).trans h3
      have h5 := (q16 5 (by decide)).trans h5
      have h217 := (q16 217 (by decide)).trans h217
      have h224 := (q16 224 (by decide)).trans h224
      have h227 := (q16 227 (by decide)).trans h227
      have h230 := (q16 230 (by decide)).trans h230
      have h233 := (q16 233 (by decide)).trans h233
      have h238 := (q16 238 (by decide)).trans h238
      have h239 := (q16 239 (by decide)).trans h239
      have h240 := (q16 240 (by decide)).trans h240
      have h241 := (q16 241 (by decide)).trans h241
      have h242 := (q16 242 (by decide)).trans h242
      have h0 := (q16 0 (by decide)).trans h0
      refine w_x e0_194 rfl ?_
      refine w_cv (d1 := 0) (w1 := 0) e0_195 rfl h238 rfl (Nat.le_of_ble_eq_true rfl) (Nat.le_of_ble_eq_true rfl) (Nat.le_of_ble_eq_true rfl) (by decide) (by decide) (m_X6_polynomial h238 h241 h242) (fun rv17 v17 q18 => ?_)
      obtain ⟨rfl, q18⟩ := q18
      have h2 := (q18 2 (by decide) (by decide) (by decide)).trans h2
      have h3 := (q18 3 (by decide) (by decide) (by decide)).trans h3
      have h5 := (q18 5 (by decide) (by decide) (by decide)).trans h5
      have h217 := (q18 217 (by decide) (by decide) (by decide)).trans h217
      have h224 := (q18 224 (by decide) (by decide) (by decide)).trans h224
      have h227 := (q18 227 (by decide) (by decide) (by decide)).trans h227
      have h230 := (q18 230 (by decide) (by decide) (by decide)).trans h230
      have h233 := (q18 233 (by decide) (by decide) (by decide)).trans h233
      have h239 := (q18 239 (by decide) (by decide) (by decide)).trans h239
      have h240 := (q18 240 (by decide) (by decide) (by decide)).trans h240
      have h0 := (q18 0 (by decide) (by decide) (by decide)).trans h0
      refine w_ic1 e0_198 (by decide) ?_
      refine w_x e0_800 rfl ?_
      refine w_x e0_803 rfl ?_
      refine w_x e0_23 rfl ?_
      refine w_x e0_25 rfl ?_
      refine w_len e0_26 h0 (by decide) ?_
      refine w_x e0_27 rfl ?_
      refine w_x e0_28 rfl ?_
      refine w_ic1 e0_29 (by decide) ?_
      refine w_x e0_806 rfl ?_
      exact w_end (Or.inl ⟨rfl, rfl⟩)
    | 3, _, ej =>
      refine w_swI e0_39 (by decide) rfl rfl ?_
      refine w_x e0_203 rfl ?_
      refine w_x e0_204 rfl ?_
      refine w_x e0_205 rfl ?_
      refine w_x e0_207 rfl ?_
      refine w_x e0_208 rfl ?_
      refine w_ald e0_209 h0 (by decide) ?_
      refine w_x e0_210 rfl ?_
      refine w_x e0_211 rfl ?_
      refine w_x e0_213 rfl ?_
      refine w_x e0_214 rfl ?_
      refine w_ald e0_215 h0 (by decide) ?_
      refine w_x e0_216 rfl ?_
      refine w_x e0_217 rfl ?_
      refine w_x e0_219 rfl ?_
      refine w_x e0_220 rfl ?_
      refine w_x e0_221 rfl ?_
      refine w_x e0_223 rfl ?_
      refine w_x e0_224 rfl ?_
      refine w_ald e0_225 h0 (by decide) ?_
      refine w_x e0_226 rfl ?_
      refine w_x e0_227 rfl ?_
      refine w_x e0_230 rfl ?_
      refine w_x e0_231 rfl ?_
      refine w_x e0_232 rfl ?_
      refine w_x e0_233 rfl ?_
      refine w_x e0_235 rfl ?_
      refine w_x e0_236 rfl ?_
      refine w_ald e0_237 h0 (by decide) ?_
      refine w_cv (d1 := 1) (w1 := 21) e0_238 rfl h1 rfl (Nat.le_of_ble_eq_true rfl) (Nat.le_of_ble_eq_true rfl) (Nat.le_of_ble_eq_true rfl) (by decide) (by decide) (m_X5_term h1 _ _ _) (fun rv19 v19 q20 => ?_)
      obtain ⟨rfl, rfl⟩ := q20
      refine w_x e0_241 rfl ?_
      refine w_x e0_242 rfl ?_
      refine w_x e0_243 rfl ?_
      refine w_x e0_245 rfl ?_
      refine w_x e0_246 rfl ?_
      refine w_ald e0_247 h0 (by decide) ?_
      refine w_x e0_248 rfl ?_
      refine w_x e0_249 rfl ?_
      refine w_x e0_251 rfl ?_
      refine w_x e0_252 rfl ?_
      refine w_ald e0_253 h0 (by decide) ?_
      refine w_x e0_254 rfl ?_
      refine w_x e0_255 rfl ?_
      refine w_x e0_257 rfl ?_
      refine w_x e0_258 rfl ?_
      refine w_x e0_259 rfl ?_
      refine w_x e0_261 rfl ?_
      refine w_x e0_262 rfl ?_
      refine w_ald e0_263 h0 (by decide) ?_
      refine w_x e0_264 rfl ?_
      refine w_x e0_265 rfl ?_
      refine w_x e0_268 rfl ?_
      refine w_x e0_269 rfl ?_
      refine w_x e0_270 rfl ?_
      refine w_x e0_271 rfl ?_
      refine w_x e0_273 rfl ?_
      refine w_x e0_274 rfl ?_
      refine w_ald e0_275 h0 (by decide) ?_
      refine w_cv (d1 := 1) (w1 := 21) e0_276 rfl h238 rfl (Nat.le_of_ble_eq_true rfl) (Nat.le_of_ble_eq_true rfl) (Nat.le_of_ble_eq_true rfl) (by decide) (by decide) (m_X6_term h238 _ _ _) (fun rv21 v21 q22 => ?_)
      obtain ⟨rfl, q22⟩ := q22
      have h1 := (q22 1 (by decide)).trans h1
      have h2 := (q22 2 (by decide)).trans h2
      have h3 := (q22 3 (by decide)).trans h3
      have h5 := (q22 5 (by decide)).trans h5
      have h217 := (q22 217 (by decide)).trans h217
      have h224 := (q22 224 (by decide)).trans h224
      have h227 := (q22 227 (by decide)).trans h227
      have h230 := (q22 230 (by decide)).trans h230
      have h233 := (q22 233 (by decide)).trans h233
      have h239 := (q22 239 (by decide)).trans h239
      have h240 := (q22 240 (by decide)).trans h240
      have h241 := (q22 241 (by decide)).trans h241
      have h242 := (q22 242 (by decide)).trans h242
      have h0 := (q22 0 (by decide)).trans h0
      refine w_ic1 e0_279 (by decide) ?_
      refine w_x e0_800 rfl ?_
      refine w_x e0_803 rfl ?_
      refine w_x e0_23 rfl ?_
      refine w_x e0_25 rfl ?_
      refine w_len e0_26 h0 (by decide) ?_
      refine w_x e0_27 rfl ?_
      refine w_x e0_28 rfl ?_
      refine w_ic1 e0_29 (by decide) ?_
      refine w_x e0_806 rfl ?_
      exact w_end (Or.inl ⟨rfl, rfl⟩)
    | 4, _, ej =>
      refine w_swI e0_39 (by decide) rfl rfl ?_
      refine w_x e0_284 rfl ?_
      refine w_x e0_285 rfl ?_
      refine w_x e0_286 rfl ?_
      refine w_x e0_288 rfl ?_
      refine w_x e0_289 rfl ?_
      refine w_ald e0_290 h0 (by decide) ?_
      refine w_x e0_291 rfl ?_
      refine w_x e0_292 rfl ?_
      refine w_x e0_294 rfl ?_
      refine w_x e0_295 rfl ?_
      refine w_ald e0_296 h0 (by decide) ?_
      refine w_ifb e0_297 (fun c23 => ?_) (fun c23 => ?_)
      ·
        refine w_x e0_304 rfl ?_
        refine w_cv (d1 := 1) (w1 := 21) e0_305 rfl h1 rfl (Nat.le_of_ble_eq_true rfl) (Nat.le_of_ble_eq_true rfl) (Nat.le_of_ble_eq_true rfl) (by decide) (by decide) (m_X5_use h1 _ _) (fun rv24 v24 q25 => ?_)
        obtain ⟨rfl, rfl⟩ := q25
        refine w_x e0_308 rfl ?_
        refine w_x e0_309 rfl ?_
        refine w_x e0_310 rfl ?_
        refine w_x e0_312 rfl ?_
        refine w_x e0_313 rfl ?_
        refine w_ald e0_314 h0 (by decide) ?_
        refine w_x e0_315 rfl ?_
        refine w_x e0_316 rfl ?_
        refine w_x e0_318 rfl ?_
        refine w_x e0_319 rfl ?_
        refine w_ald e0_320 h0 (by decide) ?_
        refine w_if1 e0_321 c23 ?_
        refine w_x e0_328 rfl ?_
        refine w_cv (d1 := 1) (w1 := 21) e0_329 rfl h238 rfl (Nat.le_of_ble_eq_true rfl) (Nat.le_of_ble_eq_true rfl) (Nat.le_of_ble_eq_true rfl) (by decide) (by decide) (m_X6_use h238 _ _) (fun rv26 v26 q27 => ?_)
        obtain ⟨rfl, q27⟩ := q27
        have h1 := (q27 1 (by decide)).trans h1
        have h2 := (q27 2 (by decide)).trans h2
        have h3 := (q27 3 (by decide)).trans h3
        have h5 := (q27 5 (by decide)).trans h5
        have h217 := (q27 217 (by decide)).trans h217
        have h224 := (q27 224 (by decide)).trans h224
        have h227 := (q27 227 (by decide)).trans h227
        have h230 := (q27 230 (by decide)).trans h230
        have h233 := (q27 233 (by decide)).trans h233
        have h239 := (q27 239 (by decide)).trans h239
        have h240 := (q27 240 (by decide)).trans h240
        have h241 := (q27 241 (by decide)).trans h241
        have h242 := (q27 242 (by decide)).trans h242
        have h0 := (q27 0 (by decide)).trans h0
        refine w_ic1 e0_332 (by decide) ?_
        refine w_x e0_800 rfl ?_
        refine w_x e0_803 rfl ?_
        refine w_x e0_23 rfl ?_
        refine w_x e0_25 rfl ?_
        refine w_len e0_26 h0 (by decide) ?_
        refine w_x e0_27 rfl ?_
        refine w_x e0_28 rfl ?_
        refine w_ic1 e0_29 (by decide) ?_
        refine w_x e0_806 rfl ?_
        exact w_end (Or.inl ⟨rfl, rfl⟩)
      ·
        refine w_x e0_300 rfl ?_
        refine w_x e0_301 rfl ?_
        refine w_cv (d1 := 1) (w1 := 21) e0_305 rfl h1 rfl (Nat.le_of_ble_eq_true rfl) (Nat.le_of_ble_eq_true rfl) (Nat.le_of_ble_eq_true rfl) (by decide) (by decide) (m_X5_use h1 _ _) (fun rv28 v28 q29 => ?_)
        obtain ⟨rfl, rfl⟩ := q29
        refine w_x e0_308 rfl ?_
        refine w_x e0_309 rfl ?_
        refine w_x e0_310 rfl ?_
        refine w_x e0_312 rfl ?_
        refine w_x e0_313 rfl ?_
        refine w_ald e0_314 h0 (by decide) ?_
        refine w_x e0_315 rfl ?_
        refine w_x e0_316 rfl ?_
        refine w_x e0_318 rfl ?_
        refine w_x e0_319 rfl ?_
        refine w_ald e0_320 h0 (by decide) ?_
        refine w_if0 e0_321 c23 ?_
        refine w_x e0_324 rfl ?_
        refine w_x e0_325 rfl ?_
        refine w_cv (d1 := 1) (w1 := 21) e0_329 rfl h238 rfl (Nat.le_of_ble_eq_true rfl) (Nat.le_of_ble_eq_true rfl) (Nat.le_of_ble_eq_true rfl) (by decide) (by decide) (m_X6_use h238 _ _) (fun rv30 v30 q31 => ?_)
        obtain ⟨rfl, q31⟩ := q31
        have h1 := (q31 1 (by decide)).trans h1
        have h2 := (q31 2 (by decide)).trans h2
        have h3 := (q31 3 (by decide)).trans h3
        have h5 := (q31 5 (by decide)).trans h5
        have h217 := (q31 217 (by decide)).trans h217
        have h224 := (q31 224 (by decide)).trans h224
        have h227 := (q31 227 (by decide)).trans h227
        have h230 := (q31 230 (by decide)).trans h230
        have h233 := (q31 233 (by decide)).trans h233
        have h239 := (q31 239 (by decide)).trans h239
        have h240 := (q31 240 (by decide)).trans h240
        have h241 := (q31 241 (by decide)).trans h241
        have h242 := (q31 242 (by decide)).trans h242
        have h0 := (q31 0 (by decide)).trans h0
        refine w_ic1 e0_332 (by decide) ?_
        refine w_x e0_800 rfl ?_
        refine w_x e0_803 rfl ?_
        refine w_x e0_23 rfl ?_
        refine w_x e0_25 rfl ?_
        refine w_len e0_26 h0 (by decide) ?_
        refine w_x e0_27 rfl ?_
        refine w_x e0_28 rfl ?_
        refine w_ic1 e0_29 (by decide) ?_
        refine w_x e0_806 rfl ?_
        exact w_end (Or.inl ⟨rfl, rfl⟩)
    | 5, _, ej =>
      refine w_swI e0_39 (by decide) rfl rfl ?_
      refine w_x e0_337 rfl ?_
      refine w_cv (d1 := 1) (w1 := 21) e0_338 rfl h1 rfl (Nat.le_of_ble_eq_true rfl) (Nat.le_of_ble_eq_true rfl) (Nat.le_of_ble_eq_true rfl) (by decide) (by decide) (m_X5_decompose h1) (fun rv32 v32 q33 => ?_)
      obtain ⟨rfl, rfl⟩ := q33
      refine w_x e0_341 rfl ?_
      refine w_cv (d1 := 0) (w1 := 0) e0_342 rfl h238 rfl (Nat.le_of_ble_eq_true rfl) (Nat.le_of_ble_eq_true rfl) (Nat.le_of_ble_eq_true rfl) (by decide) (by decide) (m_X6_decompose h238) (fun rv34 v34 q35 => ?_)
      obtain ⟨rfl, q35⟩ := q35
      have h1 := (q35 1 (by decide)).trans h1
      have h2 := (q35 2 (by decide)).trans h2
      have h3 := (q35 3 (by decide)).trans h3
      have h5 := (q35 5 (by decide)).trans h5
      have h217 := (q35 217 (by decide)).trans h217
      have h224 := (q35 224 (by decide)).trans h224
      have h227 := (q35 227 (by decide)).trans h227
      have h230 := (q35 230 (by decide)).trans h230
      have h233 := (q35 233 (by decide)).trans h233
      have h239 := (q35 239 (by decide)).trans h239
      have h240 := (q35 240 (by decide)).trans h240
      have h241 := (q35 241 (by decide)).trans h241
      have h242 := (q35 242 (by decide)).trans h242
      have h0 := (q35 0 (by decide)).trans h0
      refine w_ic1 e0_345 (by decide) ?_
      refine w_x e0_800 rfl ?_
      refine w_x e0_803 rfl ?_
      refine w_x e0_23 rfl ?_
      refine w_x e0_25 rfl ?_
      refine w_len e0_26 h0 (by decide) ?_
      refine w_x e0_27 rfl ?_
      refine w_x e0_28 rfl ?_
      refine w_ic1 e0_29 (by decide) ?_
      refine w_x e0_806 rfl ?_
      exact w_end (Or.inl ⟨rfl, rfl⟩)
    | 6, _, ej =>
      refine w_swI e0_39 (by decide) rfl rfl ?_
      refine w_x e0_350 rfl ?_
      refine w_x e0_351 rfl ?_
      refine w_x e0_352 rfl ?_
      refine w_x e0_354 rfl ?_
      refine w_x e0_355 rfl ?_
      refine w_ald e0_356 h0 (by decide) ?_
      refine w_cv (d1 := 1) (w1 := 21) e0_357 rfl h1 rfl (Nat.le_of_ble_eq_true rfl) (Nat.le_of_ble_eq_true rfl) (Nat.le_of_ble_eq_true rfl) (by decide) (by decide) (m_X5_prove h1 _) (fun rv36 v36 q37 => ?_)
      obtain ⟨rfl, rfl⟩ := q37
      refine w_x e0_360 rfl ?_
      refine w_x e0_361 rfl ?_
      refine w_x e0_362 rfl ?_
      refine w_x e0_364 rfl ?_
      refine w_x e0_365 rfl ?_
      refine w_ald e0_366 h0 (by decide) ?_
      refine w_cv (d1 := 1) (w1 := 21) e0_367 rfl h238 rfl (Nat.le_of_ble_eq_true rfl) (Nat.le_of_ble_eq_true rfl) (Nat.le_of_ble_eq_true rfl) (by decide) (by decide) (m_X6_prove h238 _) (fun rv38 v38 q39 => ?_)
      obtain ⟨rfl, q39⟩ := q39
      have h1 := (q39 1 (by decide)).trans h1
      have h2 := (q39 2 (by decide)).trans h2
      have h3 := (q39 3 (by decide)).trans h3
      have h5 := (q39 5 (by decide)).trans h5
      have h217 := (q39 217 (by decide)).trans h217
      have h224 := (q39 224 (by decide)).trans h224
      have h227 := (q39 227 (by decide)).trans h227
      have h230 := (q39 230 (by decide)).trans h230
      have h233 := (q39 233 (by decide)).trans h233
      have h239 := (q39 239 (by decide)).trans h239
      have h240 := (q39 240 (by decide)).trans h240
      have h241 := (q39 241 (by decide)).trans h241
      have h242 := (q39 242 (by decide)).trans h242
      have h0 := (q39 0 (by decide)).trans h0
      refine w_ic1 e0_370 (by decide) ?_
      refine w_x e0_800 rfl ?_
      refine w_x e0_803 rfl ?_
      refine w_x e0_23 rfl ?_
      refine w_x e0_25 rfl ?_
      refine w_len e0_26 h0 (by decide) ?_
      refine w_x e0_27 rfl ?_
      refine w_x e0_28 rfl ?_
      refine w_ic1 e0_29 (by decide) ?_
      refine w_x e0_806 rfl ?_
      exact w_end (Or.inl ⟨rfl, rfl⟩)
    | 7, _, ej =>
      refine w_swI e0_39 (by decide) rfl rfl ?_
      refine w_x e0_375 rfl ?_
      refine w_x e0_376 rfl ?_
      refine w_x e0_377 rfl ?_
      refine w_x e0_379 rfl ?_
      refine w_x e0_380 rfl ?_
      refine w_ald e0_381 h0 (by decide) ?_
      refine w_x e0_382 rfl ?_
      refine w_x e0_383 rfl ?_
      refine w_x e0_385 rfl ?_
      refine w_x e0_386 rfl ?_
      refine w_ald e0_387 h0 (by decide) ?_
      refine w_cv (d1 := 1) (w1 := 21) e0_388 rfl h1 rfl (Nat.le_of_ble_eq_true rfl) (Nat.le_of_ble_eq_true rfl) (Nat.le_of_ble_eq_true rfl) (by decide) (by decide) (m_X5_member h1 h217 _ _) (fun rv40 v40 q41 => ?_)
      obtain ⟨rfl, rfl⟩ := q41
      refine w_x e0_391 rfl ?_
      refine w_x e0_392 rfl ?_
      refine w_x e0_393 rfl ?_
      refine w_x e0_395 rfl ?_
      refine w_x e0_396 rfl ?_
      refine w_ald e0_397 h0 (by decide) ?_
      refine w_x e0_398 rfl ?_
      refine w_x e0_399 rfl ?_
      refine w_x e0_401 rfl ?_
      refine w_x e0_402 rfl ?_
      refine w_ald e0_403 h0 (by decide) ?_
      refine w_cv (d1 := 1) (w1 := 21) e0_404 rfl h238 rfl (Nat.le_of_ble_eq_true rfl) (Nat.le_of_ble_eq_true rfl) (Nat.le_of_ble_eq_true rfl) (by decide) (by decide) (m_X6_member h238 _ _) (fun rv42 v42 q43 => ?_)
      obtain ⟨rfl, q43⟩ := q43
      have h1 := (q43 1 (by decide)).trans h1
      have h2 := (q43 2 (by decide)).trans h2
      have h3 := (q43 3 (by decide)).trans h3
      have h5 := (q43 5 (by decide)).trans h5
      have h217 := (q43 217 (by decide)).trans h217
      have h224 := (q43 224 (by decide)).trans h224
      have h227 := (q43 227 (by decide)).trans h227
      have h230 := (q43 230 (by decide)).trans h230
      have h233 := (q43 233 (by decide)).trans h233
      have h239 := (q43 239 (by decide)).trans h239
      have h240 := (q43 240 (by decide)).trans h240
      have h241 := (q43 241 (by decide)).trans h241
      have h242 := (q43 242 (by decide)).trans h242
      have h0 := (q43 0 (by decide)).trans h0
      refine w_ic1 e0_407 (by decide) ?_
      refine w_x e0_800 rfl ?_
      refine w_x e0_803 rfl ?_
      refine w_x e0_23 rfl ?_
      refine w_x e0_25 rfl ?_
      refine w_len e0_26 h0 (by decide) ?_
      refine w_x e0_27 rfl ?_
      refine w_x e0_28 rfl ?_
      refine w_ic1 e0_29 (by decide) ?_
      refine w_x e0_806 rfl ?_
      exact w_end (Or.inl ⟨rfl, rfl⟩)
    | 8, _, ej =>
      refine w_swI e0_39 (by decide) rfl rfl ?_
      refine w_x e0_412 rfl ?_
      refine w_x e0_413 rfl ?_
      refine w_x e0_414 rfl ?_
      refine w_x e0_416 rfl ?_
      refine w_x e0_417 rfl ?_
      refine w_ald e0_418 h0 (by decide) ?_
      refine w_cv (d1 := 1) (w1 := 22) e0_419 rfl h1 rfl (Nat.le_of_ble_eq_true rfl) (Nat.le_of_ble_eq_true rfl) (Nat.le_of_ble_eq_true rfl) (by decide) (by decide) (m_X5_told h1 h2 h217 h224 h227 _) (fun rv44 v44 q45 => ?_)
      obtain ⟨rfl, rfl⟩ := q45
      refine w_x e0_422 rfl ?_
      refine w_x e0_423 rfl ?_
      refine w_x e0_424 rfl ?_
      refine w_x e0_426 rfl ?_
      refine w_x e0_427 rfl ?_
      refine w_ald e0_428 h0 (by decide) ?_
      refine w_cv (d1 := 0) (w1 := 0) e0_429 rfl h238 rfl (Nat.le_of_ble_eq_true rfl) (Nat.le_of_ble_eq_true rfl) (Nat.le_of_ble_eq_true rfl) (by decide) (by decide) (m_X6_told h238 _) (fun rv46 v46 q47 => ?_)
      obtain ⟨rfl, q47⟩ := q47
      have h1 := (q47 1 (by decide)).trans h1
      have h2 := (q47 2 (by decide)).trans h2
      have h3 := (q47 3 (by decide)).trans h3
      have h5 := (q47 5 (by decide)).trans h5
      have h217 := (q47 217 (by decide)).trans h217
      have h224 := (q47 224 (by decide)).trans h224
      have h227 := (q47 227 (by decide)).trans h227
      have h230 := (q47 230 (by decide)).trans h230
      have h233 := (q47 233 (by decide)).trans h233
      have h239 := (q47 239 (by decide)).trans h239
      have h240 := (q47 240 (by decide)).trans h240
      have h241 := (q47 241 (by decide)).trans h241
      have h242 := (q47 242 (by decide)).trans h242
      have h0 := (q47 0 (by decide)).trans h0
      refine w_ic1 e0_432 (vm_self _ _) ?_
      refine w_x e0_800 rfl ?_
      refine w_x e0_803 rfl ?_
      refine w_x e0_23 rfl ?_
      refine w_x e0_25 rfl ?_
      refine w_len e0_26 h0 (by decide) ?_
      refine w_x e0_27 rfl ?_
      refine w_x e0_28 rfl ?_
      refine w_ic1 e0_29 (by decide) ?_
      refine w_x e0_806 rfl ?_
      exact w_end (Or.inl ⟨rfl, rfl⟩)
    | 9, _, ej =>
      refine w_swI e0_39 (by decide) rfl rfl ?_
      refine w_x e0_437 rfl ?_
      refine w_x e0_438 rfl ?_
      refine w_x e0_439 rfl ?_
      refine w_x e0_441 rfl ?_
      refine w_x e0_442 rfl ?_
      refine w_ald e0_443 h0 (by decide) ?_
      refine w_x e0_444 rfl ?_
      refine w_x e0_445 rfl ?_
      refine w_x e0_447 rfl ?_
      refine w_x e0_448 rfl ?_
      refine w_ald e0_449 h0 (by decide) ?_
      refine w_x e0_450 rfl ?_
      refine w_x e0_451 rfl ?_
      refine w_x e0_453 rfl ?_
      refine w_x e0_454 rfl ?_
      refine w_ald e0_455 h0 (by decide) ?_
      refine w_cv (d1 := 2) (w1 := 43) e0_456 rfl h1 rfl (Nat.le_of_ble_eq_true rfl) (Nat.le_of_ble_eq_true rfl) (Nat.le_of_ble_eq_true rfl) (by decide) (by decide) (m_X5_coefficient h1 h217 h224 h227 _ _ _) (fun rv48 v48 q49 => ?_)
      obtain ⟨rfl, rfl⟩ := q49
      refine w_x e0_459 rfl ?_
      refine w_x e0_460 rfl ?_
      refine w_x e0_461 rfl ?_
      refine w_x e0_463 rfl ?_
      refine w_x e0_464 rfl ?_
      refine w_ald e0_465 h0 (by decide) ?_
      refine w_x e0_466 rfl ?_
      refine w_x e0_467 rfl ?_
      refine w_x e0_469 rfl ?_
      refine w_x e0_470 rfl ?_
      refine w_ald e0_471 h0 (by decide) ?_
      refine w_x e0_472 rfl ?_
      refine w_x e0_473 rfl ?_
      refine w_x e0_475 rfl ?_
      refine w_x e0_476 rfl ?_
      refine w_ald e0_477 h0 (by decide) ?_
      refine w_cv (d1 := 2) (w1 := 43) e0_478 rfl h238 rfl (Nat.le_of_ble_eq_true rfl) (Nat.le_of_ble_eq_true rfl) (Nat.le_of_ble_eq_true rfl) (by decide) (by decide) (m_X6_coefficient h238 _ _ _) (fun rv50 v50 q51 => ?_)
      obtain ⟨rfl, q51⟩ := q51
      have h1 := (q51 1 (by decide)).trans h1
      have h2 := (q51 2 (by decide)).trans h2
      have h3 := (q51 3 (by decide)).trans h3
      have h5 := (q51 5 (by decide)).trans h5
      have h217 := (q51 217 (by decide)).trans h217
      have h224 := (q51 224 (by decide)).trans h224
      have h227 := (q51 227 (by decide)).trans h227
      have h230 := (q51 230 (by decide)).trans h230
      have h233 := (q51 233 (by decide)).trans h233
      have h239 := (q51 239 (by decide)).trans h239
      have h240 := (q51 240 (by decide)).trans h240
      have h241 := (q51 241 (by decide)).trans h241
      have h242 := (q51 242 (by decide)).trans h242
      have h0 := (q51 0 (by decide)).trans h0
      refine w_x e0_481 rfl ?_
      refine w_if1 e0_482 (by decide) ?_
      refine w_x e0_800 rfl ?_
      refine w_x e0_803 rfl ?_
      refine w_x e0_23 rfl ?_
      refine w_x e0_25 rfl ?_
      refine w_len e0_26 h0 (by decide) ?_
      refine w_x e0_27 rfl ?_
      refine w_x e0_28 rfl ?_
      refine w_ic1 e0_29 (by decide) ?_
      refine w_x e0_806 rfl ?_
      exact w_end (Or.inl ⟨rfl, rfl⟩)
    | 10, _, ej =>
      refine w_swI e0_39 (by decide) rfl rfl ?_
      refine w_x e0_487 rfl ?_
      refine w_x e0_488 rfl ?_
      refine w_x e0_489 rfl ?_
      refine w_x e0_491 rfl ?_
      refine w_x e0_492 rfl ?_
      refine w_ald e0_493 h0 (by decide) ?_
      refine w_x e0_494 rfl ?_
      refine w_x e0_495 rfl ?_
      refine w_x e0_497 rfl ?_
      refine w_x e0_498 rfl ?_
      refine w_ald e0_499 h0 (by decide) ?_
      refine w_x e0_500 rfl ?_
      refine w_x e0_501 rfl ?_
      refine w_x e0_503 rfl ?_
      refine w_x e0_504 rfl ?_
      refine w_ald e0_505 h0 (by decide) ?_
      refine w_cv (d1 := 2) (w1 := 43) e0_506 rfl h1 rfl (Nat.le_of_ble_eq_true rfl) (Nat.le_of_ble_eq_true rfl) (Nat.le_of_ble_eq_true rfl) (by decide) (by decide) (m_X5_powers h1 h217 h224 h227 _ _ _) (fun rv52 v52 q53 => ?_)
      obtain ⟨rfl, rfl⟩ := q53
      refine w_x e0_509 rfl ?_
      refine w_x e0_510 rfl ?_
      refine w_x e0_511 rfl ?_
      refine w_x e0_513 rfl ?_
      refine w_x e0_514 rfl ?_
      refine w_ald e0_515 h0 (by decide) ?_
      refine w_x e0_516 rfl ?_
      refine w_x e0_517 rfl ?_
      refine w_x e0_519 rfl ?_
      refine w_x e0_520 rfl ?_
      refine w_ald e0_521 h0 (by decide) ?_
      refine w_x e0_522 rfl ?_
      refine w_x e0_523 rfl ?_
      refine w_x e0_525 rfl ?_
      refine w_x e0_526 rfl ?_
      refine w_ald e0_527 h0 (by decide) ?_
      refine w_cv (d1 := 2) (w1 := 43) e0_528 rfl h238 rfl (Nat.le_of_ble_eq_true rfl) (Nat.le_of_ble_eq_true rfl) (Nat.le_of_ble_eq_true rfl) (by decide) (by decide) (m_X6_powers h238 _ _ _) (fun rv54 v54 q55 => ?_)
      obtain ⟨rfl, q55⟩ := q55
      have h1 := (q55 1 (by decide)).trans h1
      have h2 := (q55 2 (by decide)).trans h2
      have h3 := (q55 3 (by decide)).trans h3
      have h5 := (q55 5 (by decide)).trans h5
      have h217 := (q55 217 (by decide)).trans h217
      have h224 := (q55 224 (by decide)).trans h224
      have h227 := (q55 227 (by decide)).trans h227
      have h230 := (q55 230 (by decide)).trans h230
      have h233 := (q55 233 (by decide)).trans h233
      have h239 := (q55 239 (by decide)).trans h239
      have h240 := (q55 240 (by decide)).trans h240
      have h241 := (q55 241 (by decide)).trans h241
      have h242 := (q55 242 (by decide)).trans h242
      have h0 := (q55 0 (by decide)).trans h0
      refine w_ic1 e0_531 (by decide) ?_
      refine w_x e0_800 rfl ?_
      refine w_x e0_803 rfl ?_
      refine w_x e0_23 rfl ?_
      refine w_x e0_25 rfl ?_
      refine w_len e0_26 h0 (by decide) ?_
      refine w_x e0_27 rfl ?_
      refine w_x e0_28 rfl ?_
      refine w_ic1 e0_29 (by decide) ?_
      refine w_x e0_806 rfl ?_
      exact w_end (Or.inl ⟨rfl, rfl⟩)
    | 11, _, ej =>
      refine w_swI e0_39 (by decide) rfl rfl ?_
      refine w_x e0_536 rfl ?_
      refine w_x e0_537 rfl ?_
      refine w_x e0_538 rfl ?_
      refine w_x e0_540 rfl ?_
      refine w_x e0_541 rfl ?_
      refine w_ald e0_542 h0 (by decide) ?_
      refine w_x e0_543 rfl ?_
      refine w_x e0_544 rfl ?_
      refine w_x e0_546 rfl ?_
      refine w_x e0_547 rfl ?_
      refine w_ald e0_548 h0 (by decide) ?_
      refine w_x e0_549 rfl ?_
      refine w_x e0_550 rfl ?_
      refine w_x e0_552 rfl ?_
      refine w_x e0_553 rfl ?_
      refine w_x e0_554 rfl ?_
      refine w_x e0_556 rfl ?_
      refine w_x e0_557 rfl ?_
      refine w_ald e0_558 h0 (by decide) ?_
      refine w_x e0_559 rfl ?_
      refine w_x e0_560 rfl ?_
      refine w_x e0_563 rfl ?_
      refine w_x e0_564 rfl ?_
      refine w_cv (d1 := 1) (w1 := 21) e0_565 rfl h1 rfl (Nat.le_of_ble_eq_true rfl) (Nat.le_of_ble_eq_true rfl) (Nat.le_of_ble_eq_true rfl) (by decide) (by decide) (m_X5_point h1 h2 _ _) (fun rv56 v56 q57 => ?_)
      obtain ⟨rfl, rfl⟩ := q57
      refine w_x e0_568 rfl ?_
      refine w_x e0_569 rfl ?_
      refine w_x e0_570 rfl ?_
      refine w_x e0_572 rfl ?_
      refine w_x e0_573 rfl ?_
      refine w_ald e0_574 h0 (by decide) ?_
      refine w_x e0_575 rfl ?_
      refine w_x e0_576 rfl ?_
      refine w_x e0_578 rfl ?_
      refine w_x e0_579 rfl ?_
      refine w_ald e0_580 h0 (by decide) ?_
      refine w_x e0_581 rfl ?_
      refine w_x e0_582 rfl ?_
      refine w_x e0_584 rfl ?_
      refine w_x e0_585 rfl ?_
      refine w_x e0_586 rfl ?_
      refine w_x e0_588 rfl ?_
      refine w_x e0_589 rfl ?_
      refine w_ald e0_590 h0 (by decide) ?_
      refine w_x e0_591 rfl ?_
      refine w_x e0_592 rfl ?_
      refine w_x e0_595 rfl ?_
      refine w_x e0_596 rfl ?_
      refine w_cv (d1 := 0) (w1 := 0) e0_597 rfl h238 rfl (Nat.le_of_ble_eq_true rfl) (Nat.le_of_ble_eq_true rfl) (Nat.le_of_ble_eq_true rfl) (by decide) (by decide) (m_X6_point h238 _ _) (fun rv58 v58 q59 => ?_)
      obtain ⟨rfl, q59⟩ := q59
      have h1 := (q59 1 (by decide)).trans h1
      have h2 := (q59 2 (by decide)).trans h2
      have h3 := (q59 3 (by decide)).trans h3
      have h5 := (q59 5 (by decide)).trans h5
      have h217 := (q59 217 (by decide)).trans h217
      have h224 := (q59 224 (by decide)).trans h224
      have h227 := (q59 227 (by decide)).trans h227
      have h230 := (q59 230 (by decide)).trans h230
      have h233 := (q59 233 (by decide)).trans h233
      have h239 := (q59 239 (by decide)).trans h239
      have h240 := (q59 240 (by decide)).trans h240
      have h241 := (q59 241 (by decide)).trans h241
      have h242 := (q59 242 (by decide)).trans h242
      have h0 := (q59 0 (by decide)).trans h0
      refine w_ic1 e0_600 (by decide) ?_
      refine w_x e0_800 rfl ?_
      refine w_x e0_803 rfl ?_
      refine w_x e0_23 rfl ?_
      refine w_x e0_25 rfl ?_
      refine w_len e0_26 h0 (by decide) ?_
      refine w_x e0_27 rfl ?_
      refine w_x e0_28 rfl ?_
      refine w_ic1 e0_29 (by decide) ?_
      refine w_x e0_806 rfl ?_
      exact w_end (Or.inl ⟨rfl, rfl⟩)
    | 12, _, ej =>
      refine w_swI e0_39 (by decide) rfl rfl ?_
      refine w_x e0_605 rfl ?_
      refine w_x e0_606 rfl ?_
      refine w_x e0_607 rfl ?_
      refine w_x e0_609 rfl ?_
      refine w_x e0_610 rfl ?_
      refine w_ald e0_611 h0 (by decide) ?_
      refine w_x e0_612 rfl ?_
      refine w_x e0_613 rfl ?_
      refine w_x e0_615 rfl ?_
      refine w_x e0_616 rfl ?_
      refine w_ald e0_617 h0 (by decide) ?_
      refine w_cv (d1 := 2) (w1 := 43) e0_618 rfl h1 rfl (Nat.le_of_ble_eq_true rfl) (Nat.le_of_ble_eq_true rfl) (Nat.le_of_ble_eq_true rfl) (by decide) (by decide) (m_X5_value h1 h2 h217 h224 h227 _ _) (fun rv60 v60 q61 => ?_)
      obtain ⟨rfl, rfl⟩ := q61
      refine w_x e0_621 rfl ?_
      refine w_x e0_622 rfl ?_
      refine w_x e0_623 rfl ?_
      refine w_x e0_625 rfl ?_
      refine w_x e0_626 rfl ?_
      refine w_ald e0_627 h0 (by decide) ?_
      refine w_x e0_628 rfl ?_
      refine w_x e0_629 rfl ?_
      refine w_x e0_631 rfl ?_
      refine w_x e0_632 rfl ?_
      refine w_ald e0_633 h0 (by decide) ?_
      refine w_cv (d1 := 2) (w1 := 43) e0_634 rfl h238 rfl (Nat.le_of_ble_eq_true rfl) (Nat.le_of_ble_eq_true rfl) (Nat.le_of_ble_eq_true rfl) (by decide) (by decide) (m_X6_value h238 _ _) (fun rv62 v62 q63 => ?_)
      obtain ⟨rfl, q63⟩ := q63
      have h1 := (q63 1 (by decide)).trans h1
      have h2 := (q63 2 (by decide)).trans h2
      have h3 := (q63 3 (by decide)).trans h3
      have h5 := (q63 5 (by decide)).trans h5
      have h217 := (q63 217 (by decide)).trans h217
      have h224 := (q63 224 (by decide)).trans h224
      have h227 := (q63 227 (by decide)).trans h227
      have h230 := (q63 230 (by decide)).trans h230
      have h233 := (q63 233 (by decide)).trans h233
      have h239 := (q63 239 (by decide)).trans h239
      have h240 := (q63 240 (by decide)).trans h240
      have h241 := (q63 241 (by decide)).trans h241
      have h242 := (q63 242 (by decide)).trans h242
      have h0 := (q63 0 (by decide)).trans h0
      refine w_x e0_637 rfl ?_
      refine w_if1 e0_638 (by decide) ?_
      refine w_x e0_800 rfl ?_
      refine w_x e0_803 rfl ?_
      refine w_x e0_23 rfl ?_
      refine w_x e0_25 rfl ?_
      refine w_len e0_26 h0 (by decide) ?_
      refine w_x e0_27 rfl ?_
      refine w_x e0_28 rfl ?_
      refine w_ic1 e0_29 (by decide) ?_
      refine w_x e0_806 rfl ?_
      exact w_end (Or.inl ⟨rfl, rfl⟩)
    | 13, _, ej =>
      refine w_swI e0_39 (by decide) rfl rfl ?_
      refine w_x e0_643 rfl ?_
      refine w_x e0_644 rfl ?_
      refine w_x e0_645 rfl ?_
      refine w_x e0_647 rfl ?_
      refine w_x e0_648 rfl ?_
      refine w_ald e0_649 h0 (by decide) ?_
      refine w_cv (d1 := 1) (w1 := 21) e0_650 rfl h1 rfl (Nat.le_of_ble_eq_true rfl) (Nat.le_of_ble_eq_true rfl) (Nat.le_of_ble_eq_true rfl) (by decide) (by decide) (m_X5_quotient h1 h217 _) (fun rv64 v64 q65 => ?_)
      obtain ⟨rfl, rfl⟩ := q65
      refine w_x e0_653 rfl ?_
      refine w_x e0_654 rfl ?_
      refine w_x e0_655 rfl ?_
      refine w_x e0_657 rfl ?_
      refine w_x e0_658 rfl ?_
      refine w_ald e0_659 h0 (by decide) ?_
      refine w_cv (d1 := 1) (w1 := 21) e0_660 rfl h238 rfl (Nat.le_of_ble_eq_true rfl) (Nat.le_of_ble_eq_true rfl) (Nat.le_of_ble_eq_true rfl) (by decide) (by decide) (m_X6_quotient h238 _) (fun rv66 v66 q67 => ?_)
      obtain ⟨rfl, q67⟩ := q67
      have h1 := (q67 1 (by decide)).trans h1
      have h2 := (q67 2 (by decide)).trans h2
      have h3 := (q67 3 (by decide)).trans h3
      have h5 := (q67 5 (by decide)).trans h5
      have h217 := (q67 217 (by decide)).trans h217
      have h224 := (q67 224 (by decide)).trans h224
      have h227 := (q67 227 (by decide)).trans h227
      have h230 := (q67 230 (by decide)).trans h230
      have h233 := (q67 233 (by decide)).trans h233
      have h239 := (q67 239 (by decide)).trans h239
      have h240 := (q67 240 (by decide)).trans h240
      have h241 := (q67 241 (by decide)).trans h241
      have h242 := (q67 242 (by decide)).trans h242
      have h0 := (q67 0 (by decide)).trans h0
      refine w_x e0_663 rfl ?_
      refine w_if1 e0_664 (by decide) ?_
      refine w_x e0_800 rfl ?_
      refine w_x e0_803 rfl ?_
      refine w_x e0_23 rfl ?_
      refine w_x e0_25 rfl ?_
      refine w_len e0_26 h0 (by decide) ?_
      refine w_x e0_27 rfl ?_
      refine w_x e0_28 rfl ?_
      refine w_ic1 e0_29 (by decide) ?_
      refine w_x e0_806 rfl ?_
      exact w_end (Or.inl ⟨rfl, rfl⟩)
    | 14, _, ej =>
      refine w_swI e0_39 (by decide) rfl rfl ?_
      refine w_x e0_669 rfl ?_
      refine w_x e0_670 rfl ?_
      refine w_x e0_671 rfl ?_
      refine w_x e0_673 rfl ?_
      refine w_x e0_674 rfl ?_
      refine w_ald e0_675 h0 (by decide) ?_
      refine w_x e0_676 rfl ?_
      refine w_x e0_677 rfl ?_
      refine w_x e0_679 rfl ?_
      refine w_x e0_680 rfl ?_
      refine w_x e0_681 rfl ?_
      refine w_x e0_683 rfl ?_
      refine w_x e0_684 rfl ?_
      refine w_ald e0_685 h0 (by decide) ?_
      refine w_x e0_686 rfl ?_
      refine w_x e0_687 rfl ?_
      refine w_x e0_690 rfl ?_
      refine w_x e0_691 rfl ?_
      refine w_x e0_692 rfl ?_
      refine w_x e0_693 rfl ?_
      refine w_x e0_695 rfl ?_
      refine w_x e0_696 rfl ?_
      refine w_ald e0_697 h0 (by decide) ?_
      refine w_x e0_698 rfl ?_
      refine w_x e0_699 rfl ?_
      refine w_x e0_701 rfl ?_
      refine w_x e0_702 rfl ?_
      refine w_x e0_703 rfl ?_
      refine w_x e0_705 rfl ?_
      refine w_x e0_706 rfl ?_
      refine w_ald e0_707 h0 (by decide) ?_
      refine w_x e0_708 rfl ?_
      refine w_x e0_709 rfl ?_
      refine w_x e0_712 rfl ?_
      refine w_x e0_713 rfl ?_
      refine w_x e0_714 rfl ?_
      exact w_end (Or.inr ⟨rfl, rfl⟩)
    | q + 15, hj, _ => exact absurd hj (by omega)
set_option maxRecDepth 100000 in
set_option maxHeartbeats 8000000 in
theorem law_z {vh : vm_H} {xs : Nat → Int32} (h0 : vm_at vh 0 = some (.inl (0, 5, .inl xs))) (h238 : vm_at vh 238 = some (.inr (6, [.int 0, .int 0, .ref 239, .ref 240, .int 0, .ref 241, .ref 242, .ref 243, .ref 244, .ref 245, .int 0, .int 0, .int 0, .int 0, .int 0, .int 0, .int 0, .int 0, .int 0, .int 0, .ref 246, .ref 247, .ref 248, .ref 249, .ref 250, .int 0, .ref 251, .int 0, .int 0, .ref 252, .ref 253, .ref 254, .ref 255, .ref 256, .ref 257, .ref 258, .ref 259, .ref 260, .int 0, .ref 261, .int 0, .int 0, .int 0, .ref 262]))) (hbz : p_b xs = 0) : vm_Wp 9 400 0 (718, pr_L, [.int 1]) vh (fun fr _ => fr.1 = 807 ∧ fr.2.2 = [.int 1]) := by
  refine w_x e0_718 rfl ?_
  refine w_x e0_720 rfl ?_
  refine w_x e0_721 rfl ?_
  refine w_x e0_722 rfl ?_
  refine w_x e0_724 rfl ?_
  refine w_x e0_725 rfl ?_
  refine w_ald e0_726 h0 (by decide) ?_
  refine w_x e0_727 rfl ?_
  refine w_x e0_728 rfl ?_
  refine w_x e0_730 rfl ?_
  refine w_x e0_731 rfl ?_
  refine w_x e0_732 rfl ?_
  refine w_x e0_734 rfl ?_
  refine w_x e0_735 rfl ?_
  refine w_ald e0_736 h0 (by decide) ?_
  refine w_x e0_737 rfl ?_
  refine w_x e0_738 rfl ?_
  refine w_x e0_741 rfl ?_
  refine w_x e0_742 rfl ?_
  refine w_x e0_743 rfl ?_
  refine w_x e0_744 rfl ?_
  refine w_x e0_746 rfl ?_
  refine w_x e0_747 rfl ?_
  refine w_ald e0_748 h0 (by decide) ?_
  refine w_x e0_749 rfl ?_
  refine w_x e0_750 rfl ?_
  refine w_x e0_752 rfl ?_
  refine w_x e0_753 rfl ?_
  refine w_x e0_754 rfl ?_
  refine w_x e0_756 rfl ?_
  refine w_x e0_757 rfl ?_
  refine w_ald e0_758 h0 (by decide) ?_
  refine w_x e0_759 rfl ?_
  refine w_x e0_760 rfl ?_
  refine w_x e0_763 rfl ?_
  refine w_x e0_764 rfl ?_
  refine w_cv (d1 := 0) (w1 := 0) e0_765 rfl h238 rfl (Nat.le_of_ble_eq_true rfl) (Nat.le_of_ble_eq_true rfl) (Nat.le_of_ble_eq_true rfl) (by decide) (by decide) (m_X6_pseudo_z h238 _ _ hbz) (fun rv1 v1 q2 => ?_)
  obtain ⟨rfl, h238, q2⟩ := q2
  have h0 := (q2 0 (by decide)).trans h0
  refine w_x e0_768 rfl ?_
  refine w_x e0_770 rfl ?_
  refine w_cv (d1 := 0) (w1 := 0) e0_771 rfl h238 rfl (Nat.le_of_ble_eq_true rfl) (Nat.le_of_ble_eq_true rfl) (Nat.le_of_ble_eq_true rfl) (by decide) (by decide) (m_thrown1 h238) (fun rv3 v3 q4 => ?_)
  obtain ⟨rfl, rfl⟩ := q4
  refine w_x e0_774 rfl ?_
  refine w_ic1 e0_776 (by decide) ?_
  refine w_x e0_781 rfl ?_
  refine w_if1 e0_783 (by decide) ?_
  refine w_x e0_797 rfl ?_
  refine w_x e0_800 rfl ?_
  refine w_x e0_803 rfl ?_
  refine w_x e0_23 rfl ?_
  refine w_x e0_25 rfl ?_
  refine w_len e0_26 h0 (by decide) ?_
  refine w_x e0_27 rfl ?_
  refine w_x e0_28 rfl ?_
  refine w_ic1 e0_29 (by decide) ?_
  refine w_x e0_806 rfl ?_
  exact w_end ⟨rfl, rfl⟩
set_option maxRecDepth 100000 in
set_option maxHeartbeats 8000000 in
theorem law_n {vh : vm_H} {xs : Nat → Int32} (h0 : vm_at vh 0 = some (.inl (0, 5, .inl xs))) (h238 : vm_at vh 238 = some (.inr (6, [.int 0, .int 0, .ref 239, .ref 240, .int 0, .ref 241, .ref 242, .ref 243, .ref 244, .ref 245, .int 0, .int 0, .int 0, .int 0, .int 0, .int 0, .int 0, .int 0, .int 0, .int 0, .ref 246, .ref 247, .ref 248, .ref 249, .ref 250, .int 0, .ref 251, .int 0, .int 0, .ref 252, .ref 253, .ref 254, .ref 255, .ref 256, .ref 257, .ref 258, .ref 259, .ref 260, .int 0, .ref 261, .int 0, .int 0, .int 0, .ref 262]))) {f263 : Nat → Int64} (h263 : vm_at vh 263 = some (.inl (1, 1, .inr (.inl f263)))) (hb0 : ¬ p_b xs = 0) (hf : f263 0 = p_a xs <<< (Int32.toInt64 (Int8.ofInt 32).toInt32 &&& 63) / p_b xs) : vm_Wp 9 400 0 (718, pr_L, [.int 0]) vh (fun fr _ => fr.1 = 807 ∧ fr.2.2 = [.int 1]) := by
  refine w_x e0_718 rfl ?_
  refine w_x e0_720 rfl ?_
  refine w_x e0_721 rfl ?_
  refine w_x e0_722 rfl ?_
  refine w_x e0_724 rfl ?_
  refine w_x e0_725 rfl ?_
  refine w_ald e0_726 h0 (by decide) ?_
  refine w_x e0_727 rfl ?_
  refine w_x e0_728 rfl ?_
  refine w_x e0_730 rfl ?_
  refine w_x e0_731 rfl ?_
  refine w_x e0_732 rfl ?_
  refine w_x e0_734 rfl ?_
  refine w_x e0_735 rfl ?_
  refine w_ald e0_736 h0 (by decide) ?_
  refine w_x e0_737 rfl ?_
  refine w_x e0_738 rfl ?_
  refine w_x e0_741 rfl ?_
  refine w_x e0_742 rfl ?_
  refine w_x e0_743 rfl ?_
  refine w_x e0_744 rfl ?_
  refine w_x e0_746 rfl ?_
  refine w_x e0_747 rfl ?_
  refine w_ald e0_748 h0 (by decide) ?_
  refine w_x e0_749 rfl ?_
  refine w_x e0_750 rfl ?_
  refine w_x e0_752 rfl ?_
  refine w_x e0_753 rfl ?_
  refine w_x e0_754 rfl ?_
  refine w_x e0_756 rfl ?_
  refine w_x e0_757 rfl ?_
  refine w_ald e0_758 h0 (by decide) ?_
  refine w_x e0_759 rfl ?_
  refine w_x e0_760 rfl ?_
  refine w_x e0_763 rfl ?_
  refine w_x e0_764 rfl ?_
  refine w_cv (d1 := 0) (w1 := 0) e0_765 rfl h238 rfl (Nat.le_of_ble_eq_true rfl) (Nat.le_of_ble_eq_true rfl) (Nat.le_of_ble_eq_true rfl) (by decide) (by decide) (m_X6_pseudo_n h238 _ _ hb0) (fun rv1 v1 q2 => ?_)
  obtain ⟨rfl, h238, q2⟩ := q2
  have h263 := (q2 263 (by decide)).trans h263
  have h0 := (q2 0 (by decide)).trans h0
  refine w_x e0_768 rfl ?_
  refine w_x e0_770 rfl ?_
  refine w_cv (d1 := 0) (w1 := 0) e0_771 rfl h238 rfl (Nat.le_of_ble_eq_true rfl) (Nat.le_of_ble_eq_true rfl) (Nat.le_of_ble_eq_true rfl) (by decide) (by decide) (m_thrown0 h238) (fun rv3 v3 q4 => ?_)
  obtain ⟨rfl, rfl⟩ := q4
  refine w_x e0_774 rfl ?_
  refine w_ic1 e0_776 (by decide) ?_
  refine w_x e0_781 rfl ?_
  refine w_if0 e0_783 (by decide) ?_
  refine w_x e0_786 rfl ?_
  refine w_x e0_787 rfl ?_
  refine w_lld e0_788 h263 (by decide) ?_
  refine w_x e0_789 rfl ?_
  refine w_x e0_791 rfl ?_
  refine w_if1 e0_792 (p_cmp hf) ?_
  refine w_x e0_797 rfl ?_
  refine w_x e0_800 rfl ?_
  refine w_x e0_803 rfl ?_
  refine w_x e0_23 rfl ?_
  refine w_x e0_25 rfl ?_
  refine w_len e0_26 h0 (by decide) ?_
  refine w_x e0_27 rfl ?_
  refine w_x e0_28 rfl ?_
  refine w_ic1 e0_29 (by decide) ?_
  refine w_x e0_806 rfl ?_
  exact w_end ⟨rfl, rfl⟩
