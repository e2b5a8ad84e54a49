/-! clear -/
def sm (f : Nat → Nat) : Nat → Nat
  | 0 => 0
  | i + 1 => sm f i + f i
section CL
variable {K : Nat → Nat × Nat} {I : Nat → Nat → Int32} {R : Nat → Nat → Option Nat} {N fu x y n : Nat} {d : rl_D} {rb ky : Int32} {g rc : Nat} {rf rt : Nat → Nat} {xc : Nat} {xk xt : Nat → Nat}
theorem y_begin (hY : sp_Y K R y) (hfu : 20 ≤ fu) : pu_ok (f_X7_begin fu y (K, I, R, N)) (fun z => ∃ I', z = (K, I', R, N) ∧ (∀ r, r ≠ y → r ≠ y + 1 → r ≠ y + 5 → r ≠ y + 6 → r ≠ y + 7 → I' r = I r) ∧ (∀ v, v < 5 → I' (y + 1) v = 0 ∧ I' (y + 5) v = 0 ∧ I' (y + 6) v = 96) ∧ (∀ k, k < 14 → I' (y + 7) k = 1) ∧ (I' y 8 = 0 ∧ I' y 9 = 0 ∧ I' y 10 = 0 ∧ I' y 13 = 0 ∧ I' y 19 = 0 ∧ I' y 20 = 0) ∧ ∀ k, k ≠ 8 → k ≠ 9 → k ≠ 10 → k ≠ 13 → k ≠ 19 → k ≠ 20 → I' y k = I y k) := by
  have key2 : ∀ (s w i : Nat) (J : Nat → Nat → Int32), i + s = 14 → s < w → (∀ r, r ≠ y + 1 → r ≠ y + 5 → r ≠ y + 6 → r ≠ y + 7 → J r = I r) → (∀ v, v < 5 → J (y + 1) v = 0 ∧ J (y + 5) v = 0 ∧ J (y + 6) v = 96) → (∀ k, k < i → J (y + 7) k = 1) → pu_ok (f_X7_begin_L37 fu y (f_X7_begin_B56 fu y) w (nI i) (K, J, R, N)) (fun z => ∃ I', z = (K, I', R, N) ∧ (∀ r, r ≠ y → r ≠ y + 1 → r ≠ y + 5 → r ≠ y + 6 → r ≠ y + 7 → I' r = I r) ∧ (∀ v, v < 5 → I' (y + 1) v = 0 ∧ I' (y + 5) v = 0 ∧ I' (y + 6) v = 96) ∧ (∀ k, k < 14 → I' (y + 7) k = 1) ∧ (I' y 8 = 0 ∧ I' y 9 = 0 ∧ I' y 10 = 0 ∧ I' y 13 = 0 ∧ I' y 19 = 0 ∧ I' y 20 = 0) ∧ ∀ k, k ≠ 8 → k ≠ 9 → k ≠ 10 → k ≠ 13 → k ≠ 19 → k ≠ 20 → I' y k = I y k) := by
    intro s
    induction s with
    | zero =>
      intro w i J h1 h2 h3 h4 h5
      obtain ⟨w, rfl⟩ : ∃ w', w = w' + 1 := ⟨w - 1, by omega⟩
      have : i = 14 := by omega
      subst this
      simp only [f_X7_begin_L37, f_X7_begin_B56, pu_pi hY.k, Option.bind_some]
      rw [if_pos (by decide)]
      have hr : ∀ r, r ≠ y → hp_set (hp_set (hp_set (hp_set (hp_set (hp_set J y 8 0) y 9 0) y 10 0) y 13 0) y 19 0) y 20 0 r = J r := fun r hr => by simp only [pu_set_row _ _ _ _ hr]
      refine pu_some ⟨_, rfl, fun r q0 q1 q2 q3 q4 => by rw [hr r q0]; exact h3 r q1 q2 q3 q4, fun v hv => by rw [hr _ (by omega), hr (y + 5) (by omega), hr (y + 6) (by omega)]; exact h4 v hv, fun k hk => by rw [hr _ (by omega)]; exact h5 k hk, ⟨?_, ?_, ?_, ?_, ?_, ?_⟩, fun k q1 q2 q3 q4 q5 q6 => ?_⟩
      all_goals simp only [pu_set]
      all_goals simp
      simp only [if_neg q1, if_neg q2, if_neg q3, if_neg q4, if_neg q5, if_neg q6]
      rw [h3 y (by omega) (by omega) (by omega) (by omega)]
    | succ s ih =>
      intro w i J h1 h2 h3 h4 h5
      obtain ⟨w, rfl⟩ : ∃ w', w = w' + 1 := ⟨w - 1, by omega⟩
      simp only [f_X7_begin_L37, pu_gr hY.k hY.f7.1, pu_sz hY.f7.2 (show i < 14 by omega) (by decide), Option.bind_some, ho_id, nI_1, pu_vn1]
      rw [if_neg (show ¬ (14 : Int32) ≤ nI i from nI_ge (show i < 14 by omega) (by decide))]
      refine ih w (i + 1) _ (by omega) (by omega) (fun r q1 q2 q3 q4 => by rw [pu_set_row _ _ _ _ q4]; exact h3 r q1 q2 q3 q4) (fun v hv => by rw [pu_set_row _ _ _ _ (by omega), pu_set_row _ _ _ _ (by omega), pu_set_row _ _ _ _ (by omega)]; exact h4 v hv) (fun k hk => ?_)
      by_cases q : k = i
      · rw [q, pu_set_at]
      · rw [pu_set_off _ _ _ _ q]
        exact h5 k (by omega)
  have key1 : ∀ (s w i : Nat) (J : Nat → Nat → Int32), i + s = 5 → s < w → (∀ r, r ≠ y + 1 → r ≠ y + 5 → r ≠ y + 6 → J r = I r) → (∀ v, v < i → J (y + 1) v = 0 ∧ J (y + 5) v = 0 ∧ J (y + 6) v = 96) → pu_ok (f_X7_begin_L2 fu y (f_X7_begin_B35 fu y) w (nI i) (K, J, R, N)) (fun z => ∃ I', z = (K, I', R, N) ∧ (∀ r, r ≠ y → r ≠ y + 1 → r ≠ y + 5 → r ≠ y + 6 → r ≠ y + 7 → I' r = I r) ∧ (∀ v, v < 5 → I' (y + 1) v = 0 ∧ I' (y + 5) v = 0 ∧ I' (y + 6) v = 96) ∧ (∀ k, k < 14 → I' (y + 7) k = 1) ∧ (I' y 8 = 0 ∧ I' y 9 = 0 ∧ I' y 10 = 0 ∧ I' y 13 = 0 ∧ I' y 19 = 0 ∧ I' y 20 = 0) ∧ ∀ k, k ≠ 8 → k ≠ 9 → k ≠ 10 → k ≠ 13 → k ≠ 19 → k ≠ 20 → I' y k = I y k) := by
    intro s
    induction s with
    | zero =>
      intro w i J h1 h2 h3 h4
      obtain ⟨w, rfl⟩ : ∃ w', w = w' + 1 := ⟨w - 1, by omega⟩
      have : i = 5 := by omega
      subst this
      simp only [f_X7_begin_L2, f_X7_begin_B35]
      rw [if_pos (by decide), ← nI_0]
      exact key2 14 fu 0 J (by omega) (by omega) (fun r q1 q2 q3 _ => h3 r q1 q2 q3) h4 (fun k hk => absurd hk (Nat.not_lt_zero _))
    | succ s ih =>
      intro w i J h1 h2 h3 h4
      obtain ⟨w, rfl⟩ : ∃ w', w = w' + 1 := ⟨w - 1, by omega⟩
      simp only [f_X7_begin_L2, pu_gr hY.k hY.f1.1, pu_si hY.f1.2 (show i < 5 by omega) (by decide), pu_gr hY.k hY.f5.1, pu_si hY.f5.2 (show i < 5 by omega) (by decide), pu_gr hY.k hY.f6.1, pu_si hY.f6.2 (show i < 5 by omega) (by decide), Option.bind_some, ho_id, nI_1]
      rw [if_neg (show ¬ (5 : Int32) ≤ nI i from nI_ge (show i < 5 by omega) (by decide))]
      refine ih w (i + 1) _ (by omega) (by omega) (fun r q1 q2 q3 => by rw [pu_set_row _ _ _ _ q3, pu_set_row _ _ _ _ q2, pu_set_row _ _ _ _ q1]; exact h3 r q1 q2 q3) (fun v hv => ?_)
      by_cases q : v = i
      · subst q
        refine ⟨?_, ?_, ?_⟩
        · rw [pu_set_row _ _ _ _ (by omega), pu_set_row _ _ _ _ (by omega), pu_set_at]
        · rw [pu_set_row _ _ _ _ (by omega), pu_set_at]
        · rw [pu_set_at]
      · obtain ⟨u1, u2, u3⟩ := h4 v (by omega)
        refine ⟨?_, ?_, ?_⟩
        · rw [pu_set_row _ _ _ _ (by omega), pu_set_row _ _ _ _ (by omega), pu_set_off _ _ _ _ q]
          exact u1
        · rw [pu_set_row _ _ _ _ (by omega), pu_set_off _ _ _ _ q, pu_set_row _ _ _ _ (by omega)]
          exact u2
        · rw [pu_set_off _ _ _ _ q, pu_set_row _ _ _ _ (by omega), pu_set_row _ _ _ _ (by omega)]
          exact u3
  have := key1 5 fu 0 I (by omega) (by omega) (fun _ _ _ _ => rfl) (fun v hv => absurd hv (Nat.not_lt_zero _))
  rw [nI_0] at this
  exact this
theorem x_clr (hX : sp_X K R x n) {sz : Nat → Nat} (hs : ∀ v, v < n → I (x + 2 + 4 * v) 3 = nI (sz v)) {P : Int32 × hp_S → Prop} {kk : Int32 → hp_S → Option (Int32 × hp_S)} (hkk : ∀ I', (∀ r, (∀ v, v < n → r ≠ x + 2 + 4 * v) → I' r = I r) → (∀ v, v < n → I' (x + 2 + 4 * v) 3 = 0 ∧ I' (x + 2 + 4 * v) 4 = 0 ∧ I' (x + 2 + 4 * v) 5 = 96) → pu_ok (kk (nI (sm sz n)) (K, I', R, N)) P) : ∀ (s w i : Nat) (J : Nat → Nat → Int32), i + s = n → s < w → (∀ r, (∀ v, v < i → r ≠ x + 2 + 4 * v) → J r = I r) → (∀ v, v < i → J (x + 2 + 4 * v) 3 = 0 ∧ J (x + 2 + 4 * v) 4 = 0 ∧ J (x + 2 + 4 * v) 5 = 96) → pu_ok (f_X6_clear_L4 fu x kk w (nI (sm sz i)) (nI i) (K, J, R, N)) P := by
  have h5 := hX.n5
  intro s
  induction s with
  | zero =>
    intro w i J h1 h2 h3 h4
    obtain ⟨w, rfl⟩ : ∃ w', w = w' + 1 := ⟨w - 1, by omega⟩
    have : i = n := by omega
    subst this
    simp only [f_X6_clear_L4, pu_gr hX.k hX.a.1, pu_ln hX.a.2.1, Option.bind_some]
    rw [if_pos (Int32.le_refl _)]
    exact hkk J h3 h4
  | succ s ih =>
    intro w i J h1 h2 h3 h4
    obtain ⟨w, rfl⟩ : ∃ w', w = w' + 1 := ⟨w - 1, by omega⟩
    have hi : i < n := by omega
    obtain ⟨p1, p2⟩ := hX.p hi
    have e3 : J (x + 2 + 4 * i) 3 = nI (sz i) := by rw [h3 _ (fun v hv => by omega)]; exact hs i hi
    simp only [f_X6_clear_L4, f_X4_reset, pu_gr hX.k hX.a.1, pu_ln hX.a.2.1, Option.bind_some, pu_lr hX.a.2.1 hi (by omega) p1, pu_gi p2.1, pu_is p2.1, pu_pi p2.1, ho_id, nI_1, e3, nI_add]
    rw [if_neg (nI_ge hi (by omega))]
    refine ih w (i + 1) _ (by omega) (by omega) (fun r hr => ?_) (fun v hv => ?_)
    · have := hr i (by omega)
      rw [pu_set_row _ _ _ _ this, pu_set_row _ _ _ _ this, pu_set_row _ _ _ _ this]
      exact h3 r (fun v hv => hr v (by omega))
    · by_cases q : v = i
      · subst q
        refine ⟨?_, ?_, ?_⟩
        · rw [pu_set_off _ _ _ _ (by decide), pu_set_off _ _ _ _ (by decide), pu_set_at]
        · rw [pu_set_off _ _ _ _ (by decide), pu_set_at]
        · rw [pu_set_at]
      · rw [pu_set_row _ _ _ _ (by omega), pu_set_row _ _ _ _ (by omega), pu_set_row _ _ _ _ (by omega)]
        exact h4 v (by omega)
theorem y_clr (hY : sp_Y K R y) (h5 : n ≤ 5) {sz : Nat → Nat} (h0 : I y 0 = nI n) (hs : ∀ v, v < n → I (y + 1) v = nI (sz v)) (kk : Int32 → hp_S → Option (Int32 × hp_S)) : ∀ (s w i : Nat), i + s = n → s < w → f_X7_clear_L4 fu y kk w (nI (sm sz i)) (nI i) (K, I, R, N) = kk (nI (sm sz n)) (K, I, R, N) := by
  intro s
  induction s with
  | zero =>
    intro w i h1 h2
    obtain ⟨w, rfl⟩ : ∃ w', w = w' + 1 := ⟨w - 1, by omega⟩
    have : i = n := by omega
    subst this
    simp only [f_X7_clear_L4, pu_gi hY.k, h0, Option.bind_some]
    rw [if_pos (Int32.le_refl _)]
  | succ s ih =>
    intro w i h1 h2
    obtain ⟨w, rfl⟩ : ∃ w', w = w' + 1 := ⟨w - 1, by omega⟩
    have hi : i < n := by omega
    simp only [f_X7_clear_L4, pu_gi hY.k, h0, Option.bind_some, pu_gr hY.k hY.f1.1, pu_li hY.f1.2 (show i < 5 by omega) (by decide), hs i hi, ho_id, nI_1, nI_add]
    rw [if_neg (nI_ge hi (by omega))]
    exact ih w (i + 1) (by omega) (by omega)
theorem b_all {k : Nat} (hk : k < 14) : (((16383 : Int32) >>> (nI k &&& 31)) &&& 1) = 1 := by
  have : k = 0 ∨ k = 1 ∨ k = 2 ∨ k = 3 ∨ k = 4 ∨ k = 5 ∨ k = 6 ∨ k = 7 ∨ k = 8 ∨ k = 9 ∨ k = 10 ∨ k = 11 ∨ k = 12 ∨ k = 13 := by omega
  rcases this with rfl | rfl | rfl | rfl | rfl | rfl | rfl | rfl | rfl | rfl | rfl | rfl | rfl | rfl <;> decide
/-- all at its beginning: what both constructors and both clears give -/
def rl_d0 : rl_D := (fun _ => 0, fun _ _ => 0, fun _ _ => 0, fun _ _ => 0, fun _ => 0, fun _ => 96)
theorem rl_ok0 : rl_ok n rl_d0 := ⟨fun v _ => ⟨Nat.zero_le _, fun i hi => absurd hi (Nat.not_lt_zero _), fun i j _ hj => absurd hj (Nat.not_lt_zero _)⟩, fun v _ i hi => absurd hi (Nat.not_lt_zero _)⟩
theorem rl_W0 (h1 : sp_X K R x n) (h2 : sp_Y K R y) (h3 : y = sp_t x n + 29) (h4 : ∀ v, v < n → I (x + 2 + 4 * v) 3 = 0 ∧ I (x + 2 + 4 * v) 4 = 0 ∧ I (x + 2 + 4 * v) 5 = 96) (h5 : I y 0 = nI n) (h6 : ∀ v, v < 5 → I (y + 1) v = 0 ∧ I (y + 5) v = 0 ∧ I (y + 6) v = 96) (h7 : I x 6 = 16383 ∧ I x 7 = 0 ∧ I x 8 = 0) (h8 : ∀ k, k < 14 → I (y + 7) k = 1) (h9 : I y 8 = 0 ∧ I y 9 = 0 ∧ I y 10 = 0 ∧ I y 13 = 0 ∧ I y 19 = 0 ∧ I y 20 = 0) (h10 : I (sp_t x n + 3) 2 = 0 ∧ I (sp_t x n + 6) 2 = 0) (h11 : rl_4 I (sp_t x n) (sp_isM n rl_d0.1 rl_d0.2.1 0)) (h12 : I (sp_t x n + 10) 2 = 0 ∧ I (sp_t x n + 10) 4 = 0 ∧ I (sp_t x n + 10) 5 = 0) (h13 : ∀ k, k < 14 → I (sp_t x n + 10 + 3) k = 0) : rl_W K I R x y n rl_d0 16383 0 0 0 (fun _ => 0) (fun _ => 0) 0 (fun _ => 0) (fun _ => 0) := by
  have hn := h1.n5
  obtain ⟨u1, u2, u3, u4, u5, u6⟩ := h9
  refine ⟨h1, h2, h3, rl_ok0, fun v hv => ⟨(h4 v hv).1, (h4 v hv).2.1, (h4 v hv).2.2, fun i hi => absurd hi (Nat.not_lt_zero _)⟩, ⟨h5, fun v hv => ⟨(h6 v (by omega)).1, (h6 v (by omega)).2.1, (h6 v (by omega)).2.2, fun i hi => absurd hi (Nat.not_lt_zero _)⟩⟩, ⟨h7.1, h7.2.1, h7.2.2, fun k hk => by rw [h8 k hk, b_all hk], u1, u2, Or.inl rfl, by decide, by decide⟩, ⟨⟨Nat.zero_le _, h10.1, u3, fun i hi => absurd hi (Nat.not_lt_zero _)⟩, fun i hi => absurd hi (Nat.not_lt_zero _)⟩, ⟨⟨Nat.zero_le _, h10.2, u4, fun i hi => absurd hi (Nat.not_lt_zero _)⟩, fun i hi => absurd hi (Nat.not_lt_zero _)⟩, h11, 0, Nat.zero_le _, h12.1, fun i hi => absurd hi (Nat.not_lt_zero _), fun c hc => absurd hc (Nat.not_lt_zero _), Nat.zero_le _, h12.2.1, u5, fun i hi => absurd hi (Nat.not_lt_zero _), by rw [h12.2.2, u6], fun k hk => by rw [h13 k hk]; rfl⟩
theorem op_clear (h : rl_W K I R x y n d rb ky g rc rf rt xc xk xt) (hfu : 1700 ≤ fu) : pu_ok (f_X6_clear fu x (K, I, R, N)) (fun r => pu_ok (f_X7_clear fu y r.2) (fun q => r.1 = q.1 ∧ rl_V x y q.2)) := by
  have ht : sp_t x n = x + 2 + 4 * n := rfl
  obtain ⟨a1, a2, a3, a4, a5, a6, a7, a8, a9, a10, a11⟩ := id h
  have h5 := a1.n5
  obtain ⟨-, p1, p2, p3, -⟩ := a1.j
  unfold f_X6_clear
  have h0 : (0 : Int32) = nI (sm d.1 0) := rfl
  conv => rw [show f_X6_clear_L4 fu x (f_X6_clear_B40 fu x) fu 0 0 (K, I, R, N) = f_X6_clear_L4 fu x (f_X6_clear_B40 fu x) fu (nI (sm d.1 0)) (nI 0) (K, I, R, N) from rfl]
  refine x_clr a1 (fun v hv => (a5 v hv).1) ?_ n fu 0 I (by omega) (by omega) (fun _ _ => rfl) (fun v hv => absurd hv (Nat.not_lt_zero _))
  intro I1 k1 k2
  have hI1 : ∀ r, (r < x + 2 ∨ sp_t x n ≤ r) → I1 r = I r := fun r hr => k1 r (fun v hv => by omega)
  simp only [f_X6_clear_B40, pu_gr a1.k a1.r.1, pu_pi a1.r.2.1, pu_gr a1.k a1.e.1, pu_pi a1.e.2.1, pu_gr a1.k a1.j.1, pu_gr p1 p2, pu_is p3.1, Option.bind_some]
  refine pu_bind (pu_mono (xreset p3 (by omega)) ?_)
  rintro _ ⟨I2, rfl, r1, r2, r3, r4, r5, r6⟩
  have htl : ho_tl h_t0 0 = some 16383 := by decide
  simp only [htl, pu_pi a1.k, pu_gr a1.k a1.t.1, pu_gr a1.k a1.a.1, pu_gi a1.k, pu_is a1.t.2.1, Option.bind_some, pu_set_at]
  generalize hI3 : hp_set (hp_set (hp_set I2 x 6 16383) x 7 0) x 8 0 = I3
  have s1 : ∀ r, r ≠ x → I3 r = I2 r := fun r hr => by rw [← hI3, pu_set_row _ _ _ _ hr, pu_set_row _ _ _ _ hr, pu_set_row _ _ _ _ hr]
  have s2 : I3 x 6 = 16383 ∧ I3 x 7 = 0 ∧ I3 x 8 = 0 := by
    rw [← hI3]
    exact ⟨by rw [pu_set_off _ _ _ _ (by decide), pu_set_off _ _ _ _ (by decide), pu_set_at], by rw [pu_set_off _ _ _ _ (by decide), pu_set_at], pu_set_at _ _ _ _⟩
  have s3 : ∀ v, v < n → I3 (x + 2 + 4 * v) 3 = 0 ∧ I3 (x + 2 + 4 * v) 4 = 0 ∧ I3 (x + 2 + 4 * v) 5 = 96 := fun v hv => by
    rw [s1 _ (by omega), r1 _ (by omega) (by omega) (by omega), pu_set_row _ _ _ _ (by omega), pu_set_row _ _ _ _ (by omega)]
    exact k2 v hv
  have hX1 : rl_X1 I3 x n rl_d0 := fun v hv => ⟨(s3 v hv).1, (s3 v hv).2.1, (s3 v hv).2.2, fun i hi => absurd hi (Nat.not_lt_zero _)⟩
  rw [← nI_0]
  refine pu_bind (pu_mono (xa_gather (g := 0) a1 hX1 rl_ok0.1 (Or.inl rfl) (by omega)) ?_)
  rintro _ ⟨I4, rfl, g1, g2⟩
  refine pu_some ?_
  have m1 : ∀ r, r ≠ x → r ≠ sp_t x n + 3 → r ≠ sp_t x n + 6 → (r < x + 2 ∨ sp_t x n + 3 ≤ r) → (r < sp_t x n + 10 ∨ sp_t x n + 13 < r) → I4 r = I r := fun r q1 q2 q3 q4 q5 => by
    rw [g1 r (by omega), s1 r q1, r1 r (by omega) (by omega) (by omega), pu_set_row _ _ _ _ q3, pu_set_row _ _ _ _ q2]
    exact hI1 r (by omega)
  have m2 : ∀ r, sp_t x n + 13 < r → I4 r = I r := fun r q => m1 r (by omega) (by omega) (by omega) (by omega) (by omega)
  have t3 : I4 (sp_t x n + 3) 2 = 0 ∧ I4 (sp_t x n + 6) 2 = 0 := by
    rw [g1 _ (by omega), g1 (sp_t x n + 6) (by omega), s1 _ (by omega), s1 (sp_t x n + 6) (by omega), r1 _ (by omega) (by omega) (by omega), r1 (sp_t x n + 6) (by omega) (by omega) (by omega)]
    exact ⟨by rw [pu_set_row _ _ _ _ (by omega), pu_set_at], pu_set_at _ _ _ _⟩
  have t10 : ∀ r, sp_t x n + 9 ≤ r → I4 r = I2 r := fun r q => by rw [g1 r (by omega), s1 r (by omega)]
  simp only
  unfold f_X7_clear
  rw [show f_X7_clear_L4 fu y (f_X7_clear_B27 fu y) fu 0 0 (K, I4, R, N) = f_X7_clear_L4 fu y (f_X7_clear_B27 fu y) fu (nI (sm d.1 0)) (nI 0) (K, I4, R, N) from rfl]
  rw [y_clr (sz := d.1) a2 h5 (by rw [m2 y (by omega)]; exact a6.1) (fun v hv => by rw [m2 (y + 1) (by omega)]; exact (a6.2 v hv).1) _ n fu 0 (by omega) (by omega)]
  simp only [f_X7_clear_B27, pu_is a2.k, Option.bind_some]
  refine pu_bind (pu_mono (y_begin a2 (by omega)) ?_)
  rintro _ ⟨I5, rfl, b1, b2, b3, b4, b5⟩
  have w1 : ∀ r, r < y → I5 r = I4 r := fun r hr => b1 r (by omega) (by omega) (by omega) (by omega) (by omega)
  refine pu_some ⟨rfl, K, I5, R, N, n, rl_d0, 16383, 0, 0, 0, _, _, 0, _, _, rfl, rl_W0 a1 a2 a3 (fun v hv => ?_) ?_ b2 ?_ b3 b4 ?_ ?_ ?_ ?_⟩
  · rw [w1 _ (by omega), g1 _ (by omega)]
    exact s3 v hv
  · rw [b5 0 (by decide) (by decide) (by decide) (by decide) (by decide) (by decide), m2 y (by omega)]
    exact a6.1
  · rw [w1 _ (by omega), g1 _ (by omega)]
    exact s2
  · rw [w1 _ (by omega), w1 (sp_t x n + 6) (by omega)]
    exact t3
  · exact g2.keep (by rw [w1 _ (by omega)]) (w1 _ (by omega))
  · rw [w1 _ (by omega), t10 _ (by omega)]
    exact ⟨r4, r5, r6⟩
  · intro k hk
    rw [w1 _ (by omega), t10 _ (by omega)]
    exact r3 k hk
end CL
