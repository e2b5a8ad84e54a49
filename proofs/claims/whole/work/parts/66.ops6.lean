/-! repeat, except -/
section OP6
variable {K : Nat → Nat × Nat} {I I' : Nat → Nat → Int32} {R : Nat → Nat → Option Nat} {N fu x y n e len c : Nat} {d d' : rl_D} {rb ky : Int32} {g rc : Nat} {rf rt : Nat → Nat} {xc : Nat} {xk xt : Nat → Nat}
theorem rl_rep (h : rl_W K I R x y n d rb ky g rc rf rt xc xk xt) (hlt : rc < 4) {a b : Nat} (ha : a < 1000) (hb : b < 1000) (hab : a < b) : rl_V x y (K, hp_set (hp_set (hp_set (hp_set (hp_set (hp_set I (sp_t x n + 3 + 1) rc (nI a)) (sp_t x n + 3 + 2) rc (nI b)) (sp_t x n + 3) 2 (nI (rc + 1))) (y + 8) rc (nI a)) (y + 8 + 1) rc (nI b)) y 10 (nI (rc + 1)), R, N) := by
  obtain ⟨a1, a2, a3, a4, a5, a6, a7, a8, a9, a10, a11⟩ := id h
  have ht : sp_t x n = x + 2 + 4 * n := rfl
  generalize hJ : hp_set (hp_set (hp_set (hp_set (hp_set (hp_set I (sp_t x n + 3 + 1) rc (nI a)) (sp_t x n + 3 + 2) rc (nI b)) (sp_t x n + 3) 2 (nI (rc + 1))) (y + 8) rc (nI a)) (y + 8 + 1) rc (nI b)) y 10 (nI (rc + 1)) = J
  have kx : ∀ b, b ≠ sp_t x n + 3 → b ≠ sp_t x n + 3 + 1 → b ≠ sp_t x n + 3 + 2 → b ≠ y + 8 → b ≠ y + 8 + 1 → b ≠ y → J b = I b := fun b q1 q2 q3 q4 q5 q6 => by
    rw [← hJ, pu_set_row _ _ _ _ q6, pu_set_row _ _ _ _ q5, pu_set_row _ _ _ _ q4, pu_set_row _ _ _ _ q1, pu_set_row _ _ _ _ q3, pu_set_row _ _ _ _ q2]
  have ky' : ∀ k, k ≠ 10 → J y k = I y k := fun k q => by
    rw [← hJ, pu_set_off _ _ _ _ q, pu_set_row _ _ _ _ (by omega), pu_set_row _ _ _ _ (by omega), pu_set_row _ _ _ _ (by omega), pu_set_row _ _ _ _ (by omega), pu_set_row _ _ _ _ (by omega)]
  refine ⟨K, J, R, N, n, d, rb, ky, g, rc + 1, fun i => if i = rc then a else rf i, fun i => if i = rc then b else rt i, xc, xk, xt, rfl, a1, a2, a3, a4, a5.keep (fun b q1 q2 => kx b (by omega) (by omega) (by omega) (by omega) (by omega) (by omega)), a6.keep (ky' 0 (by decide)) (fun b q1 q2 => kx b (by omega) (by omega) (by omega) (by omega) (by omega) (by omega)), a7.keep (kx _ (by omega) (by omega) (by omega) (by omega) (by omega) (by omega)) (kx _ (by omega) (by omega) (by omega) (by omega) (by omega) (by omega)) (ky' _ (by decide)) (ky' _ (by decide)), ?_, ⟨a9.1.keep (kx _ (by omega) (by omega) (by omega) (by omega) (by omega) (by omega)) (kx _ (by omega) (by omega) (by omega) (by omega) (by omega) (by omega)) (kx _ (by omega) (by omega) (by omega) (by omega) (by omega) (by omega)) (ky' _ (by decide)) (kx _ (by omega) (by omega) (by omega) (by omega) (by omega) (by omega)) (kx _ (by omega) (by omega) (by omega) (by omega) (by omega) (by omega)), a9.2⟩, a10.keep (by rw [kx _ (by omega) (by omega) (by omega) (by omega) (by omega) (by omega)]) (kx _ (by omega) (by omega) (by omega) (by omega) (by omega) (by omega)), a11.keep (kx _ (by omega) (by omega) (by omega) (by omega) (by omega) (by omega)) (kx _ (by omega) (by omega) (by omega) (by omega) (by omega) (by omega)) (kx _ (by omega) (by omega) (by omega) (by omega) (by omega) (by omega)) (kx _ (by omega) (by omega) (by omega) (by omega) (by omega) (by omega)) (ky' _ (by decide)) (ky' _ (by decide)) (kx _ (by omega) (by omega) (by omega) (by omega) (by omega) (by omega)) (kx _ (by omega) (by omega) (by omega) (by omega) (by omega) (by omega))⟩
  refine ⟨a8.1.add hlt ha hb ?_ ?_ (fun i => ?_) (fun i => ?_) (fun i => ?_) (fun i => ?_), fun i hi => ?_⟩
  · rw [← hJ, pu_set_row _ _ _ _ (by omega), pu_set_row _ _ _ _ (by omega), pu_set_row _ _ _ _ (by omega), pu_set_at]
  · rw [← hJ, pu_set_at]
  · rw [← hJ, pu_set_row _ _ _ _ (by omega), pu_set_row _ _ _ _ (by omega), pu_set_row _ _ _ _ (by omega), pu_set_row _ _ _ _ (by omega), pu_set_row _ _ _ _ (by omega), pu_set]
    simp only [if_true]
  · rw [← hJ, pu_set_row _ _ _ _ (by omega), pu_set_row _ _ _ _ (by omega), pu_set_row _ _ _ _ (by omega), pu_set_row _ _ _ _ (by omega), pu_set]
    simp only [if_true]
    rw [pu_set_row _ _ _ _ (by omega)]
  · rw [← hJ, pu_set_row _ _ _ _ (by omega), pu_set_row _ _ _ _ (by omega), pu_set]
    simp only [if_true]
    rw [pu_set_row _ _ _ _ (by omega), pu_set_row _ _ _ _ (by omega), pu_set_row _ _ _ _ (by omega)]
  · rw [← hJ, pu_set_row _ _ _ _ (by omega), pu_set]
    simp only [if_true]
    rw [pu_set_row _ _ _ _ (by omega), pu_set_row _ _ _ _ (by omega), pu_set_row _ _ _ _ (by omega), pu_set_row _ _ _ _ (by omega)]
  · simp only
    by_cases hq : i = rc
    · simp only [if_pos hq]
      exact hab
    · simp only [if_neg hq]
      exact a8.2 i (by omega)
theorem rl_exc (h : rl_W K I R x y n d rb ky g rc rf rt xc xk xt) (hlt : xc < 20) {a b : Nat} (ha : a < 1000) (hb : b < 1000) (hab : a < 14) : rl_V x y (K, hp_set (hp_set (hp_set (hp_set (hp_set (hp_set I (sp_t x n + 6 + 1) xc (nI a)) (sp_t x n + 6 + 2) xc (nI b)) (sp_t x n + 6) 2 (nI (xc + 1))) (y + 10) xc (nI a)) (y + 10 + 1) xc (nI b)) y 13 (nI (xc + 1)), R, N) := by
  obtain ⟨a1, a2, a3, a4, a5, a6, a7, a8, a9, a10, a11⟩ := id h
  have ht : sp_t x n = x + 2 + 4 * n := rfl
  generalize hJ : hp_set (hp_set (hp_set (hp_set (hp_set (hp_set I (sp_t x n + 6 + 1) xc (nI a)) (sp_t x n + 6 + 2) xc (nI b)) (sp_t x n + 6) 2 (nI (xc + 1))) (y + 10) xc (nI a)) (y + 10 + 1) xc (nI b)) y 13 (nI (xc + 1)) = J
  have kx : ∀ b, b ≠ sp_t x n + 6 → b ≠ sp_t x n + 6 + 1 → b ≠ sp_t x n + 6 + 2 → b ≠ y + 10 → b ≠ y + 10 + 1 → b ≠ y → J b = I b := fun b q1 q2 q3 q4 q5 q6 => by
    rw [← hJ, pu_set_row _ _ _ _ q6, pu_set_row _ _ _ _ q5, pu_set_row _ _ _ _ q4, pu_set_row _ _ _ _ q1, pu_set_row _ _ _ _ q3, pu_set_row _ _ _ _ q2]
  have ky' : ∀ k, k ≠ 13 → J y k = I y k := fun k q => by
    rw [← hJ, pu_set_off _ _ _ _ q, pu_set_row _ _ _ _ (by omega), pu_set_row _ _ _ _ (by omega), pu_set_row _ _ _ _ (by omega), pu_set_row _ _ _ _ (by omega), pu_set_row _ _ _ _ (by omega)]
  refine ⟨K, J, R, N, n, d, rb, ky, g, rc, rf, rt, xc + 1, fun i => if i = xc then a else xk i, fun i => if i = xc then b else xt i, rfl, a1, a2, a3, a4, a5.keep (fun b q1 q2 => kx b (by omega) (by omega) (by omega) (by omega) (by omega) (by omega)), a6.keep (ky' 0 (by decide)) (fun b q1 q2 => kx b (by omega) (by omega) (by omega) (by omega) (by omega) (by omega)), a7.keep (kx _ (by omega) (by omega) (by omega) (by omega) (by omega) (by omega)) (kx _ (by omega) (by omega) (by omega) (by omega) (by omega) (by omega)) (ky' _ (by decide)) (ky' _ (by decide)), ⟨a8.1.keep (kx _ (by omega) (by omega) (by omega) (by omega) (by omega) (by omega)) (kx _ (by omega) (by omega) (by omega) (by omega) (by omega) (by omega)) (kx _ (by omega) (by omega) (by omega) (by omega) (by omega) (by omega)) (ky' _ (by decide)) (kx _ (by omega) (by omega) (by omega) (by omega) (by omega) (by omega)) (kx _ (by omega) (by omega) (by omega) (by omega) (by omega) (by omega)), a8.2⟩, ?_, a10.keep (by rw [kx _ (by omega) (by omega) (by omega) (by omega) (by omega) (by omega)]) (kx _ (by omega) (by omega) (by omega) (by omega) (by omega) (by omega)), a11.keep (kx _ (by omega) (by omega) (by omega) (by omega) (by omega) (by omega)) (kx _ (by omega) (by omega) (by omega) (by omega) (by omega) (by omega)) (kx _ (by omega) (by omega) (by omega) (by omega) (by omega) (by omega)) (kx _ (by omega) (by omega) (by omega) (by omega) (by omega) (by omega)) (ky' _ (by decide)) (ky' _ (by decide)) (kx _ (by omega) (by omega) (by omega) (by omega) (by omega) (by omega)) (kx _ (by omega) (by omega) (by omega) (by omega) (by omega) (by omega))⟩
  refine ⟨a9.1.add hlt ha hb ?_ ?_ (fun i => ?_) (fun i => ?_) (fun i => ?_) (fun i => ?_), fun i hi => ?_⟩
  · rw [← hJ, pu_set_row _ _ _ _ (by omega), pu_set_row _ _ _ _ (by omega), pu_set_row _ _ _ _ (by omega), pu_set_at]
  · rw [← hJ, pu_set_at]
  · rw [← hJ, pu_set_row _ _ _ _ (by omega), pu_set_row _ _ _ _ (by omega), pu_set_row _ _ _ _ (by omega), pu_set_row _ _ _ _ (by omega), pu_set_row _ _ _ _ (by omega), pu_set]
    simp only [if_true]
  · rw [← hJ, pu_set_row _ _ _ _ (by omega), pu_set_row _ _ _ _ (by omega), pu_set_row _ _ _ _ (by omega), pu_set_row _ _ _ _ (by omega), pu_set]
    simp only [if_true]
    rw [pu_set_row _ _ _ _ (by omega)]
  · rw [← hJ, pu_set_row _ _ _ _ (by omega), pu_set_row _ _ _ _ (by omega), pu_set]
    simp only [if_true]
    rw [pu_set_row _ _ _ _ (by omega), pu_set_row _ _ _ _ (by omega), pu_set_row _ _ _ _ (by omega)]
  · rw [← hJ, pu_set_row _ _ _ _ (by omega), pu_set]
    simp only [if_true]
    rw [pu_set_row _ _ _ _ (by omega), pu_set_row _ _ _ _ (by omega), pu_set_row _ _ _ _ (by omega), pu_set_row _ _ _ _ (by omega)]
  · simp only
    by_cases hq : i = xc
    · simp only [if_pos hq]
      exact hab
    · simp only [if_neg hq]
      exact a9.2 i (by omega)
theorem op_repeat (h : rl_W K I R x y n d rb ky g rc rf rt xc xk xt) (v w : Int32) : pu_ok (f_X6_repeat fu x v w (K, I, R, N)) (fun r => pu_ok (f_X7_repeat fu y v w r.2) (fun q => r.1 = q.1 ∧ rl_V x y q.2)) := by
  obtain ⟨a1, a2, a3, a4, a5, a6, a7, a8, a9, a10, a11⟩ := id h
  have ht : sp_t x n = x + 2 + 4 * n := rfl
  have hV : rl_V x y (K, I, R, N) := ⟨K, I, R, N, n, d, rb, ky, g, rc, rf, rt, xc, xk, xt, rfl, h⟩
  obtain ⟨b1, b2, b3, b4⟩ := a8.1
  simp only [f_X6_repeat, f_X6_repeat_B19, in_time, in_ite, Option.bind_some]
  by_cases c1 : 0 ≤ v ∧ v ≤ 999
  · simp only [if_pos c1]
    obtain ⟨k, k1, rfl⟩ := in_rng (m := 999) rfl (by decide) c1
    have hyb : ¬ (nI k + 1 ≤ w ∧ w ≤ 999) → f_X7_repeat fu y (nI k) w (K, I, R, N) = some (-2, (K, I, R, N)) := by
      intro hq
      simp only [f_X7_repeat, f_X7_repeat_B24, in_y, in_ite, Option.bind_some]
      rw [if_pos c1, if_neg hq]
    have hlt : nI k + 1 ≤ w ↔ nI k < w := by
      rw [nI_1, Int32.le_iff_toInt_le, Int32.lt_iff_toInt_lt, nI_toInt (by omega), nI_toInt (by omega)]
      omega
    by_cases c2 : 0 ≤ w ∧ w ≤ 999
    · simp only [if_pos c2]
      by_cases c3 : nI k < w
      · obtain ⟨m, m1, rfl⟩ := in_rng (m := 999) rfl (by decide) c2
        have hkm : k < m := (nI_ltI (by omega) (by omega)).mp c3
        simp only [if_pos c3, pu_gr a1.k a1.r.1, pu_is a1.r.2.1, Option.bind_some, en_append a1.r.2 b2 b1 (by decide)]
        by_cases c4 : rc = 4
        · simp only [if_pos c4]
          refine pu_some ?_
          simp only [f_X7_repeat, in_y, in_ite, Option.bind_some]
          rw [if_pos c1, if_pos ⟨hlt.mpr c3, c2.2⟩]
          simp only [pu_gi a2.k, b3, Option.bind_some]
          rw [if_pos (show nI rc = 4 by rw [c4]; rfl)]
          exact pu_some ⟨rfl, hV⟩
        · simp only [if_neg c4]
          refine pu_some ?_
          simp only [f_X7_repeat, in_y, in_ite, Option.bind_some]
          rw [if_pos c1, if_pos ⟨hlt.mpr c3, c2.2⟩]
          generalize hJ : hp_set (hp_set (hp_set I (sp_t x n + 3 + 1) rc (nI k)) (sp_t x n + 3 + 2) rc (nI m)) (sp_t x n + 3) 2 (nI (rc + 1)) = J
          have r0 : ∀ j, J y j = I y j := fun j => by rw [← hJ, pu_set_row _ _ _ _ (by omega), pu_set_row _ _ _ _ (by omega), pu_set_row _ _ _ _ (by omega)]
          simp only [pu_gi a2.k, r0, b3, Option.bind_some, pu_gr a2.k a2.f11.1]
          rw [if_neg (show ¬ nI rc = 4 from fun q => c4 ((nI_eq (b := 4) (by omega) (by decide)).mp q)), pu_si a2.f11.2 (by omega) (by decide)]
          have r1 : hp_set J (y + 8) rc (nI k) y 10 = nI rc := by rw [pu_set_row _ _ _ _ (by omega), r0]; exact b3
          simp only [pu_gi a2.k, r1, Option.bind_some, pu_gr a2.k a2.f12.1]
          rw [pu_si a2.f12.2 (by omega) (by decide)]
          have r2 : hp_set (hp_set J (y + 8) rc (nI k)) (y + 9) rc (nI m) y 10 = nI rc := by rw [pu_set_row _ _ _ _ (by omega)]; exact r1
          simp only [pu_gi a2.k, r2, Option.bind_some, pu_pi a2.k, nI_1, pu_set_at]
          refine pu_some ⟨rfl, ?_⟩
          have := rl_rep (N := N) h (by omega) (a := k) (b := m) (by omega) (by omega) hkm
          rw [hJ] at this
          exact this
      · simp only [if_neg c3]
        refine pu_some ?_
        simp only
        rw [hyb (fun q => c3 (hlt.mp q.1))]
        exact pu_some ⟨rfl, hV⟩
    · simp only [if_neg c2]
      refine pu_some ?_
      simp only
      rw [hyb (fun q => c2 ⟨Int32.le_of_lt (Int32.lt_of_le_of_lt c1.1 (hlt.mp q.1)), q.2⟩)]
      exact pu_some ⟨rfl, hV⟩
  · simp only [if_neg c1]
    refine pu_some ?_
    simp only [f_X7_repeat, f_X7_repeat_B24, in_y, in_ite, Option.bind_some]
    rw [if_neg c1]
    exact pu_some ⟨rfl, hV⟩
/-- is a couple there? the class's answer -/
theorem en_holds {pp qq : Nat → Nat} {most k b a a' : Nat} (hN : sp_N K R e len) (h3 : rl_3 I e y k b most c pp qq) (hl : most ≤ len) (hl2 : len < 1000) (ha : a < 1000) (ha' : a' < 1000) (hfu : 1000 ≤ fu) : ∃ r : Int32, f_X1_holds fu e (nI a) (nI a') (K, I, R, N) = some (r, (K, I, R, N)) ∧ ((r = 1 ∧ ∃ i, i < c ∧ pp i = a ∧ qq i = a') ∨ (r = 0 ∧ ∀ i, i < c → ¬ (pp i = a ∧ qq i = a'))) := by
  obtain ⟨b1, b2, b3, b4⟩ := h3
  have key : ∀ (m i : Nat), i ≤ c → c - i < m → (∀ j, j < i → ¬ (pp j = a ∧ qq j = a')) → pu_ok (f_X1_holds_L2 fu e (nI a) (nI a') (f_X1_holds_B38 fu e (nI a) (nI a')) m (nI i) (K, I, R, N)) (fun q => ∃ r : Int32, q = (r, (K, I, R, N)) ∧ ((r = 1 ∧ ∃ i, i < c ∧ pp i = a ∧ qq i = a') ∨ (r = 0 ∧ ∀ i, i < c → ¬ (pp i = a ∧ qq i = a')))) := by
    intro m
    induction m with
    | zero => intro i h1 h2; omega
    | succ m ih =>
      intro i h1 h2 h3
      simp only [f_X1_holds_L2, f_X1_holds_B38, f_X1_holds_B32, pu_gi hN.1, b2, Option.bind_some, pu_gr hN.1 hN.2.1, pu_gr hN.1 hN.2.2.1, ho_id, nI_1, pu_vn0, pu_vn1, if_true]
      by_cases hc : c ≤ i
      · rw [if_pos (nI_le hc (by omega))]
        exact pu_some ⟨0, rfl, Or.inr ⟨rfl, fun j hj => h3 j (by omega)⟩⟩
      · obtain ⟨p1, p2, -, -, p5, p6⟩ := b4 i (by omega)
        rw [if_neg (nI_ge (by omega) (by omega)), pu_li hN.2.2.2.1 (by omega) (by omega), p1]
        simp only [Option.bind_some]
        have next : ¬ (pp i = a ∧ qq i = a') → pu_ok (f_X1_holds_L2 fu e (nI a) (nI a') (f_X1_holds_B38 fu e (nI a) (nI a')) m (nI (i + 1)) (K, I, R, N)) (fun q => ∃ r : Int32, q = (r, (K, I, R, N)) ∧ ((r = 1 ∧ ∃ i, i < c ∧ pp i = a ∧ qq i = a') ∨ (r = 0 ∧ ∀ i, i < c → ¬ (pp i = a ∧ qq i = a')))) := fun hn => ih (i + 1) (by omega) (by omega) (fun j hj => by
          rcases Nat.lt_or_ge j i with q | q
          · exact h3 j q
          · have : j = i := by omega
            rw [this]
            exact hn)
        by_cases e1 : pp i = a
        · rw [if_pos (by rw [e1]), pu_li hN.2.2.2.2 (by omega) (by omega), p2]
          simp only [Option.bind_some]
          by_cases e2 : qq i = a'
          · rw [if_pos (by rw [e2])]
            exact pu_some ⟨1, rfl, Or.inl ⟨rfl, i, by omega, e1, e2⟩⟩
          · rw [if_neg (fun q => e2 ((nI_eq (by omega) (by omega)).mp q))]
            exact next (fun q => e2 q.2)
        · rw [if_neg (fun q => e1 ((nI_eq (by omega) (by omega)).mp q))]
          exact next (fun q => e1 q.1)
  obtain ⟨_, h1, r, rfl, h2⟩ := key fu 0 (Nat.zero_le _) (by omega) (fun j hj => absurd hj (Nat.not_lt_zero _))
  refine ⟨r, ?_, h2⟩
  rw [nI_0] at h1
  exact h1
/-- the reference's answer -/
theorem en_excepted {a a' : Nat} (hY : sp_Y K R y) (b1 : c ≤ 20) (b3 : I y 13 = nI c) (b4 : ∀ i, i < c → I (y + 10) i = nI (xk i) ∧ I (y + 11) i = nI (xt i) ∧ xk i < 1000 ∧ xt i < 1000) (ha : a < 1000) (ha' : a' < 1000) (hfu : 1000 ≤ fu) : ∃ r : Int32, f_X7_isExcepted fu y (nI a) (nI a') (K, I, R, N) = some (r, (K, I, R, N)) ∧ ((r = 1 ∧ ∃ i, i < c ∧ xk i = a ∧ xt i = a') ∨ (r = 0 ∧ ∀ i, i < c → ¬ (xk i = a ∧ xt i = a'))) := by
  have key : ∀ (m i : Nat) (w : Int32), i ≤ c → c - i < m → ((w = 1 ∧ ∃ j, j < i ∧ xk j = a ∧ xt j = a') ∨ (w = 0 ∧ ∀ j, j < i → ¬ (xk j = a ∧ xt j = a'))) → pu_ok (f_X7_isExcepted_L5 fu y (nI a) (nI a') (f_X7_isExcepted_B52 fu y (nI a) (nI a')) m w (nI i) (K, I, R, N)) (fun q => ∃ r : Int32, q = (r, (K, I, R, N)) ∧ ((r = 1 ∧ ∃ i, i < c ∧ xk i = a ∧ xt i = a') ∨ (r = 0 ∧ ∀ i, i < c → ¬ (xk i = a ∧ xt i = a')))) := by
    intro m
    induction m with
    | zero => intro i w h1 h2; omega
    | succ m ih =>
      intro i w h1 h2 h3
      simp only [f_X7_isExcepted_L5, f_X7_isExcepted_B52, f_X7_isExcepted_B40, f_X7_isExcepted_B44, f_X7_isExcepted_B45, pu_gi hY.k, b3, Option.bind_some, pu_gr hY.k hY.f14.1, pu_gr hY.k hY.f15.1, ho_id, nI_1]
      by_cases hc : c ≤ i
      · rw [if_pos (nI_le hc (by omega))]
        have : i = c := by omega
        subst this
        rcases h3 with ⟨rfl, h3⟩ | ⟨rfl, h3⟩
        · rw [if_pos pu_vn1]
          exact pu_some ⟨1, rfl, Or.inl ⟨rfl, h3⟩⟩
        · rw [if_pos pu_vn0]
          exact pu_some ⟨0, rfl, Or.inr ⟨rfl, h3⟩⟩
      · rw [if_neg (nI_ge (by omega) (by omega))]
        rcases h3 with ⟨rfl, j, j1, j2⟩ | ⟨rfl, h3⟩
        · rw [if_neg (by decide : ¬ (1 : Int32) = 0)]
          exact ih (i + 1) 1 (by omega) (by omega) (Or.inl ⟨rfl, j, by omega, j2⟩)
        · rw [if_pos rfl]
          obtain ⟨p1, p2, p5, p6⟩ := b4 i (by omega)
          rw [pu_li hY.f14.2 (by omega) (by decide), p1]
          simp only [Option.bind_some]
          have next : ¬ (xk i = a ∧ xt i = a') → pu_ok (f_X7_isExcepted_L5 fu y (nI a) (nI a') (f_X7_isExcepted_B52 fu y (nI a) (nI a')) m 0 (nI (i + 1)) (K, I, R, N)) (fun q => ∃ r : Int32, q = (r, (K, I, R, N)) ∧ ((r = 1 ∧ ∃ i, i < c ∧ xk i = a ∧ xt i = a') ∨ (r = 0 ∧ ∀ i, i < c → ¬ (xk i = a ∧ xt i = a')))) := fun hn => ih (i + 1) 0 (by omega) (by omega) (Or.inr ⟨rfl, fun j hj => by
            rcases Nat.lt_or_ge j i with q | q
            · exact h3 j q
            · have : j = i := by omega
              rw [this]
              exact hn⟩)
          by_cases e1 : xk i = a
          · rw [if_pos (by rw [e1]), pu_li hY.f15.2 (by omega) (by decide), p2]
            simp only [Option.bind_some]
            by_cases e2 : xt i = a'
            · rw [if_pos (by rw [e2])]
              exact ih (i + 1) 1 (by omega) (by omega) (Or.inl ⟨rfl, i, by omega, e1, e2⟩)
            · rw [if_neg (fun q => e2 ((nI_eq (by omega) (by omega)).mp q))]
              exact next (fun q => e2 q.2)
          · rw [if_neg (fun q => e1 ((nI_eq (by omega) (by omega)).mp q))]
            exact next (fun q => e1 q.1)
  obtain ⟨_, h1, r, rfl, h2⟩ := key fu 0 0 (Nat.zero_le _) (by omega) (Or.inr ⟨rfl, fun j hj => absurd hj (Nat.not_lt_zero _)⟩)
  refine ⟨r, ?_, h2⟩
  rw [nI_0] at h1
  exact h1
theorem op_except (h : rl_W K I R x y n d rb ky g rc rf rt xc xk xt) (v w : Int32) (hfu : 1000 ≤ fu) : pu_ok (f_X6_except fu x v w (K, I, R, N)) (fun r => pu_ok (f_X7_except fu y v w r.2) (fun q => r.1 = q.1 ∧ rl_V x y q.2)) := by
  obtain ⟨a1, a2, a3, a4, a5, a6, a7, a8, a9, a10, a11⟩ := id h
  have ht : sp_t x n = x + 2 + 4 * n := rfl
  have hV : rl_V x y (K, I, R, N) := ⟨K, I, R, N, n, d, rb, ky, g, rc, rf, rt, xc, xk, xt, rfl, h⟩
  obtain ⟨b1, b2, b3, b4⟩ := a9.1
  simp only [f_X6_except, f_X6_except_B14, in_kind, in_time, in_ite, Option.bind_some]
  by_cases c1 : 0 ≤ v ∧ v ≤ 13
  · simp only [if_pos c1]
    by_cases c2 : 0 ≤ w ∧ w ≤ 999
    · simp only [if_pos c2]
      obtain ⟨k, k1, rfl⟩ := in_rng (m := 13) rfl (by decide) c1
      obtain ⟨m, m1, rfl⟩ := in_rng (m := 999) rfl (by decide) c2
      obtain ⟨r, r1, r2⟩ := en_holds (N := N) (a := k) (a' := m) (fu := fu) a1.e.2 a9.1 (Nat.le_refl _) (by decide) (by omega) (by omega) hfu
      obtain ⟨q, q1, q2⟩ := en_excepted (N := N) (a := k) (a' := m) (fu := fu) a2 b1 b3 (fun i hi => ⟨(b4 i hi).2.2.1, (b4 i hi).2.2.2.1, (b4 i hi).2.2.2.2⟩) (by omega) (by omega) hfu
      simp only [pu_gr a1.k a1.e.1, pu_is a1.e.2.1, Option.bind_some, r1]
      have hyx : ∀ (J : Nat → Nat → Int32), f_X7_isExcepted fu y (nI k) (nI m) (K, J, R, N) = some (q, (K, J, R, N)) → f_X7_except fu y (nI k) (nI m) (K, J, R, N) = if q = 0 then ((ho_gi 7 y 13 (K, J, R, N)).bind fun v4 => if v4 = 20 then some (-3, (K, J, R, N)) else ((ho_gr 7 y 14 (K, J, R, N)).bind fun r5 => (ho_gi 7 y 13 (K, J, R, N)).bind fun v6 => (ho_si r5 v6 (nI k) (K, J, R, N)).bind fun z => (ho_gr 7 y 15 z).bind fun r7 => (ho_gi 7 y 13 z).bind fun v8 => (ho_si r7 v8 (nI m) z).bind fun z => (ho_gi 7 y 13 z).bind fun v9 => (ho_pi 7 y 13 (v9 + 1) z).bind fun z => (ho_gi 7 y 13 z).bind fun v10 => some (v10, z))) else some (-1, (K, J, R, N)) := by
        intro J hJ
        simp only [f_X7_except, in_y, in_ite, Option.bind_some, pu_is a2.k, hJ]
        rw [if_pos c1, if_pos c2]
      rcases r2 with ⟨rfl, i, i1, i2⟩ | ⟨rfl, r3⟩
      · rw [if_neg (by decide : ¬ (1 : Int32) = 0)]
        refine pu_some ?_
        simp only
        rw [hyx I q1]
        rcases q2 with ⟨rfl, -⟩ | ⟨-, q3⟩
        · rw [if_neg (by decide : ¬ (1 : Int32) = 0)]
          exact pu_some ⟨rfl, hV⟩
        · exact absurd i2 (q3 i i1)
      · rw [if_pos rfl]
        have hq0 : q = 0 := by
          rcases q2 with ⟨-, i, i1, i2⟩ | ⟨q3, -⟩
          · exact absurd i2 (r3 i i1)
          · exact q3
        simp only [pu_gr a1.k a1.e.1, pu_is a1.e.2.1, Option.bind_some, en_append a1.e.2 b2 b1 (by decide)]
        by_cases c4 : xc = 20
        · simp only [if_pos c4]
          refine pu_some ?_
          simp only
          rw [hyx I q1, if_pos hq0]
          simp only [pu_gi a2.k, b3, Option.bind_some]
          rw [if_pos (show nI xc = 20 by rw [c4]; rfl)]
          exact pu_some ⟨rfl, hV⟩
        · simp only [if_neg c4]
          refine pu_some ?_
          simp only
          have hV2 := rl_exc (N := N) h (by omega) (a := k) (b := m) (by omega) (by omega) (by omega)
          generalize hJ : hp_set (hp_set (hp_set I (sp_t x n + 6 + 1) xc (nI k)) (sp_t x n + 6 + 2) xc (nI m)) (sp_t x n + 6) 2 (nI (xc + 1)) = J at hV2 ⊢
          have r0 : ∀ j, J y j = I y j := fun j => by rw [← hJ, pu_set_row _ _ _ _ (by omega), pu_set_row _ _ _ _ (by omega), pu_set_row _ _ _ _ (by omega)]
          have r9 : ∀ b, y < b → J b = I b := fun b hb => by rw [← hJ, pu_set_row _ _ _ _ (by omega), pu_set_row _ _ _ _ (by omega), pu_set_row _ _ _ _ (by omega)]
          have hJq : f_X7_isExcepted fu y (nI k) (nI m) (K, J, R, N) = some (q, (K, J, R, N)) := by
            obtain ⟨q', w1, w2⟩ := en_excepted (N := N) (I := J) (c := xc) (xk := xk) (xt := xt) (a := k) (a' := m) (fu := fu) a2 b1 (by rw [r0]; exact b3) (fun i hi => by rw [r9 _ (by omega), r9 _ (by omega)]; exact ⟨(b4 i hi).2.2.1, (b4 i hi).2.2.2.1, (b4 i hi).2.2.2.2⟩) (by omega) (by omega) hfu
            have hq' : q' = q := by
              rw [hq0]
              rcases w2 with ⟨-, i, i1, i2⟩ | ⟨w3, -⟩
              · exact absurd i2 (r3 i i1)
              · exact w3
            rw [← hq']
            exact w1
          rw [hyx J hJq, if_pos hq0]
          simp only [pu_gi a2.k, r0, b3, Option.bind_some, pu_gr a2.k a2.f14.1]
          rw [if_neg (show ¬ nI xc = 20 from fun q => c4 ((nI_eq (b := 20) (by omega) (by decide)).mp q)), pu_si a2.f14.2 (by omega) (by decide)]
          have r1' : hp_set J (y + 10) xc (nI k) y 13 = nI xc := by rw [pu_set_row _ _ _ _ (by omega), r0]; exact b3
          simp only [pu_gi a2.k, r1', Option.bind_some, pu_gr a2.k a2.f15.1]
          rw [pu_si a2.f15.2 (by omega) (by decide)]
          have r2' : hp_set (hp_set J (y + 10) xc (nI k)) (y + 11) xc (nI m) y 13 = nI xc := by rw [pu_set_row _ _ _ _ (by omega)]; exact r1'
          simp only [pu_gi a2.k, r2', Option.bind_some, pu_pi a2.k, nI_1, pu_set_at]
          exact pu_some ⟨rfl, hV2⟩
    · simp only [if_neg c2]
      refine pu_some ?_
      simp only [f_X7_except, f_X7_except_B21, in_y, in_ite, Option.bind_some]
      rw [if_pos c1, if_neg c2]
      exact pu_some ⟨rfl, hV⟩
  · simp only [if_neg c1]
    refine pu_some ?_
    simp only [f_X7_except, f_X7_except_B21, in_y, in_ite, Option.bind_some]
    rw [if_neg c1]
    exact pu_some ⟨rfl, hV⟩
end OP6
