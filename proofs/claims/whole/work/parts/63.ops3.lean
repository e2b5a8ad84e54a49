section OP3
variable {K : Nat → Nat × Nat} {I I' : Nat → Nat → Int32} {R : Nat → Nat → Option Nat} {N fu x y n p s : Nat} {d d' : rl_D} {rb ky : Int32} {g rc : Nat} {rf rt : Nat → Nat} {xc : Nat} {xk xt : Nat → Nat} {tm : Nat → Nat}
/-- the events have changed, or a voice's low and high, on both sides alike -/
theorem rl_W.ev (h : rl_W K I R x y n d rb ky g rc rf rt xc xk xt) (hd : rl_ok n d') (h5 : rl_X1 I' x n d') (h6 : rl_Y1 I' y n d') (h10 : rl_4 I' (sp_t x n) (sp_isM n d'.1 d'.2.1 g)) (kx : ∀ b, b < x + 2 ∨ sp_t x n + 3 ≤ b → b ≤ y ∨ y + 7 ≤ b → I' b = I b) : rl_W K I' R x y n d' rb ky g rc rf rt xc xk xt := by
  obtain ⟨a1, a2, a3, a4, a5, a6, a7, a8, a9, a10, a11⟩ := h
  have ht : sp_t x n = x + 2 + 4 * n := rfl
  have ky' : I' y = I y := kx y (by omega) (by omega)
  exact ⟨a1, a2, a3, hd, h5, h6, a7.keep (kx _ (by omega) (by omega)) (kx _ (by omega) (by omega)) (by rw [ky']) (by rw [ky']), ⟨a8.1.keep (kx _ (by omega) (by omega)) (kx _ (by omega) (by omega)) (kx _ (by omega) (by omega)) (by rw [ky']) (kx _ (by omega) (by omega)) (kx _ (by omega) (by omega)), a8.2⟩, ⟨a9.1.keep (kx _ (by omega) (by omega)) (kx _ (by omega) (by omega)) (kx _ (by omega) (by omega)) (by rw [ky']) (kx _ (by omega) (by omega)) (kx _ (by omega) (by omega)), a9.2⟩, h10, a11.keep (kx _ (by omega) (by omega)) (kx _ (by omega) (by omega)) (kx _ (by omega) (by omega)) (kx _ (by omega) (by omega)) (by rw [ky']) (by rw [ky']) (kx _ (by omega) (by omega)) (kx _ (by omega) (by omega))⟩
set_option maxHeartbeats 1000000 in
theorem ya_add (hY : sp_Y K R y) (h1 : rl_Y1 I y n d) (ho : sp_ok n d.1 d.2.1) (hn : n ≤ 5) {v tt : Nat} (hv : v < n) (htt : tt < 1000) (a b : Int32) :
    pu_ok (f_X7_add fu y (nI v) (nI tt) a b (K, I, R, N)) (fun r => r.1 = (ap_o d v tt a b).1 ∧ ∃ I', r.2 = (K, I', R, N) ∧ (∀ c, c ≤ y ∨ y + 5 ≤ c → I' c = I c) ∧ rl_Y1 I' y n (ap_o d v tt a b).2) := by
  obtain ⟨e1, e2, e3, e4⟩ := h1.2 v hv
  obtain ⟨o1, o2, o3⟩ := ho v hv
  have hB : ¬ (0 < d.1 v ∧ tt ≤ d.2.1 v (d.1 v - 1)) → pu_ok (f_X7_add_B34 fu y (nI v) (nI tt) a b (nI (d.1 v)) (K, I, R, N)) (fun r => r.1 = (ap_o d v tt a b).1 ∧ ∃ I', r.2 = (K, I', R, N) ∧ (∀ c, c ≤ y ∨ y + 5 ≤ c → I' c = I c) ∧ rl_Y1 I' y n (ap_o d v tt a b).2) := by
    intro c1
    unfold ap_o f_X7_add_B34
    simp only [if_neg c1]
    by_cases c2 : d.1 v = 24
    · rw [if_pos (show nI (d.1 v) = 24 from by rw [c2]; rfl)]
      simp only [if_pos c2]
      exact pu_some ⟨rfl, I, rfl, fun _ _ => rfl, h1⟩
    · rw [if_neg (show ¬ nI (d.1 v) = 24 from fun q => c2 ((nI_eq (b := 24) (by omega) (by decide)).mp q))]
      simp only [if_neg c2, pu_gr hY.k hY.f1.1, pu_gr hY.k hY.f2.1, pu_gr hY.k hY.f3.1, pu_gr hY.k hY.f4.1, Option.bind_some, lr_ix]
      rw [pu_si hY.f2.2 (by omega) (by decide)]
      simp only [Option.bind_some, pu_gr hY.k hY.f3.1]
      rw [pu_si hY.f3.2 (by omega) (by decide)]
      simp only [Option.bind_some, pu_gr hY.k hY.f4.1]
      rw [pu_si hY.f4.2 (by omega) (by decide)]
      simp only [Option.bind_some, pu_gr hY.k hY.f1.1]
      rw [pu_li hY.f1.2 (show v < 5 by omega) (by decide)]
      have r1 : hp_set (hp_set (hp_set I (y + 2) (24 * v + d.1 v) (nI tt)) (y + 3) (24 * v + d.1 v) a) (y + 4) (24 * v + d.1 v) b (y + 1) v = nI (d.1 v) := by
        rw [pu_set_row _ _ _ _ (by omega), pu_set_row _ _ _ _ (by omega), pu_set_row _ _ _ _ (by omega)]
        exact e1
      simp only [Option.bind_some, r1, nI_1]
      rw [pu_si hY.f1.2 (show v < 5 by omega) (by decide)]
      simp only [Option.bind_some]
      refine pu_some ⟨rfl, _, rfl, fun c hc => by rw [pu_set_row _ _ _ _ (by omega), pu_set_row _ _ _ _ (by omega), pu_set_row _ _ _ _ (by omega), pu_set_row _ _ _ _ (by omega)], ?_, fun u hu => ?_⟩
      · rw [pu_set_row _ _ _ _ (by omega), pu_set_row _ _ _ _ (by omega), pu_set_row _ _ _ _ (by omega), pu_set_row _ _ _ _ (by omega)]
        exact h1.1
      · obtain ⟨w1, w2, w3, w4⟩ := h1.2 u hu
        have ou := (ho u hu).1
        refine ⟨?_, ?_, ?_, fun i hi => ⟨?_, ?_, ?_⟩⟩
        · rw [pu_set]
          simp only [if_true, ap_d]
          by_cases hq : u = v
          · rw [if_pos hq, if_pos hq]
          · rw [if_neg hq, if_neg hq, pu_set_row _ _ _ _ (by omega), pu_set_row _ _ _ _ (by omega), pu_set_row _ _ _ _ (by omega)]
            exact w1
        · rw [pu_set_row _ _ _ _ (by omega), pu_set_row _ _ _ _ (by omega), pu_set_row _ _ _ _ (by omega), pu_set_row _ _ _ _ (by omega)]
          exact w2
        · rw [pu_set_row _ _ _ _ (by omega), pu_set_row _ _ _ _ (by omega), pu_set_row _ _ _ _ (by omega), pu_set_row _ _ _ _ (by omega)]
          exact w3
        all_goals
          simp only [ap_d] at hi ⊢
          have hiff : (24 * u + i = 24 * v + d.1 v) ↔ (u = v ∧ i = d.1 v) := by
            constructor
            · intro e
              by_cases hq : u = v
              · exact ⟨hq, by rw [hq] at e; omega⟩
              · rw [if_neg hq] at hi
                exfalso
                omega
            · rintro ⟨rfl, rfl⟩
              rfl
          have hi2 : ¬ (u = v ∧ i = d.1 v) → i < d.1 u := by
            intro hn'
            by_cases hq : u = v
            · rw [if_pos hq] at hi
              subst hq
              have : i ≠ d.1 u := fun e => hn' ⟨rfl, e⟩
              omega
            · rw [if_neg hq] at hi
              exact hi
        · rw [pu_set_row _ _ _ _ (by omega), pu_set_row _ _ _ _ (by omega), pu_set_row _ _ _ _ (by omega), pu_set]
          simp only [if_true, hiff]
          split
          · rfl
          · exact (w4 i (hi2 ‹_›)).1
        · rw [pu_set_row _ _ _ _ (by omega), pu_set_row _ _ _ _ (by omega), pu_set]
          simp only [if_true, hiff]
          split
          · rfl
          · rw [pu_set_row _ _ _ _ (by omega)]
            exact (w4 i (hi2 ‹_›)).2.1
        · rw [pu_set_row _ _ _ _ (by omega), pu_set]
          simp only [if_true, hiff]
          split
          · rfl
          · rw [pu_set_row _ _ _ _ (by omega), pu_set_row _ _ _ _ (by omega)]
            exact (w4 i (hi2 ‹_›)).2.2
  simp only [f_X7_add, pu_gr hY.k hY.f1.1, pu_gr hY.k hY.f2.1, Option.bind_some, pu_li hY.f1.2 (show v < 5 by omega) (by decide), e1]
  by_cases h0 : d.1 v = 0
  · rw [if_pos (by rw [h0, nI_0]; exact Int32.le_refl _)]
    exact hB (fun q => by omega)
  · obtain ⟨k, hk⟩ : ∃ k, d.1 v = k + 1 := ⟨d.1 v - 1, by omega⟩
    rw [if_neg (nI_nle (by omega) (by omega)), hk, lr_ix1, pu_li hY.f2.2 (by omega) (by decide), (e4 k (by omega)).1]
    simp only [Option.bind_some]
    have ok := o2 k (by omega)
    by_cases c1 : tt ≤ d.2.1 v k
    · rw [if_neg (nI_nlt c1 (by omega))]
      unfold ap_o
      rw [if_pos ⟨by omega, by rw [hk]; exact c1⟩]
      exact pu_some ⟨rfl, I, rfl, fun _ _ => rfl, h1⟩
    · rw [if_pos (nI_lt (by omega) (by omega)), ← hk]
      exact hB (fun q => c1 (by have := q.2; rw [hk] at this; exact this))
/-- note and rest, once the numbers are good -/
theorem op_app (h : rl_W K I R x y n d rb ky g rc rf rt xc xk xt) {v tt : Nat} (hv : v < n) (htt : tt < 1000) {a b : Int32} (hn : sp_note a b) (hfu : 200 ≤ fu) : pu_ok (f_X6_append fu x (nI v) (nI tt) a b (K, I, R, N)) (fun r => pu_ok (f_X7_add fu y (nI v) (nI tt) a b r.2) (fun q => r.1 = q.1 ∧ rl_V x y q.2) ∧ ∃ I', r.2 = (K, I', R, N) ∧ I' y 0 = nI n) := by
  obtain ⟨a1, a2, a3, a4, a5, a6, a7, a8, a9, a10, a11⟩ := id h
  have ht : sp_t x n = x + 2 + 4 * n := rfl
  refine pu_mono (xa_append a1 a5 a4 a7.2.2.2.2.2.2.1 a7.2.2.1 hv htt hn hfu) ?_
  rintro ⟨r, _⟩ ⟨hr, I1, rfl, b1, b2, b3⟩
  have h6 : rl_Y1 I1 y n d := a6.keep (by rw [b1 y (by omega)]) (fun c _ _ => b1 c (by omega))
  refine ⟨pu_mono (ya_add a2 h6 a4.1 a1.n5 hv htt a b) ?_, I1, rfl, h6.1⟩
  rintro ⟨q, _⟩ ⟨hq, I2, rfl, c1, c2⟩
  refine ⟨hr.trans hq.symm, K, I2, R, N, n, (ap_o d v tt a b).2, rb, ky, g, rc, rf, rt, xc, xk, xt, rfl, h.ev (ap_ok a4 hv htt hn) (b2.keep (fun c _ _ => c1 c (by omega))) c2 (b3.keep (by rw [c1 _ (by omega)]) (c1 _ (by omega))) (fun c k1 k2 => by rw [c1 c (by omega)]; exact b1 c k1)⟩
theorem op_note (h : rl_W K I R x y n d rb ky g rc rf rt xc xk xt) (v tt a b : Int32) (hfu : 200 ≤ fu) : pu_ok (f_X6_note fu x v tt a b (K, I, R, N)) (fun r => pu_ok (f_X7_note fu y v tt a b r.2) (fun q => r.1 = q.1 ∧ rl_V x y q.2)) := by
  obtain ⟨a1, a2, a3, a4, a5, a6, a7, a8, a9, a10, a11⟩ := id h
  have h2 := a1.n2
  have hbad : rl_V x y (K, I, R, N) := ⟨K, I, R, N, n, d, rb, ky, g, rc, rf, rt, xc, xk, xt, rfl, h⟩
  simp only [f_X6_note, f_X6_note_B36, pu_is a1.k, in_xv a1, in_time, in_x, in_ite, Option.bind_some]
  have hy : ∀ I1 : Nat → Nat → Int32, I1 y 0 = nI n → f_X7_note fu y v tt a b (K, I1, R, N) = if 0 ≤ v ∧ v ≤ nI (n - 1) then (if 0 ≤ tt ∧ tt ≤ 999 then (if 0 ≤ a ∧ a ≤ 55 then (if -2 ≤ b ∧ b ≤ 2 then (f_X7_add fu y v tt a b (K, I1, R, N)) else some (-2, (K, I1, R, N))) else some (-2, (K, I1, R, N))) else some (-2, (K, I1, R, N))) else some (-2, (K, I1, R, N)) := by
    intro I1 hI1
    simp only [f_X7_note, f_X7_note_B44, f_X7_note_B45, f_X7_note_B66, pu_is a2.k, in_yv a2 hI1 h2, in_y, in_ite, Option.bind_some, if_true]
    have : (f_X7_add fu y v tt a b (K, I1, R, N)).bind (fun x => match x with | (v2, z) => some (v2, z)) = f_X7_add fu y v tt a b (K, I1, R, N) := by
      cases f_X7_add fu y v tt a b (K, I1, R, N) <;> rfl
    rw [if_neg (by decide : ¬ (1 : Int32) = 0)]
    simp only [this]
  by_cases c1 : 0 ≤ v ∧ v ≤ nI (n - 1)
  · simp only [if_pos c1]
    by_cases c2 : 0 ≤ tt ∧ tt ≤ 999
    · simp only [if_pos c2]
      by_cases c3 : 0 ≤ a ∧ a ≤ 55
      · simp only [if_pos c3]
        by_cases c4 : -2 ≤ b ∧ b ≤ 2
        · simp only [if_pos c4]
          obtain ⟨k, k1, rfl⟩ := in_rng rfl (by have := a1.n5; omega) c1
          obtain ⟨t, t1, rfl⟩ := in_rng (m := 999) rfl (by decide) c2
          refine pu_bind (pu_mono (op_app h (v := k) (tt := t) (by omega) (by omega) (Or.inr ⟨c3.1, c3.2, c4.1, c4.2⟩) hfu) ?_)
          rintro ⟨r, _⟩ ⟨hq, I1, rfl, hI1⟩
          refine pu_some ?_
          simp only
          rw [hy I1 hI1, if_pos c1, if_pos c2, if_pos c3, if_pos c4]
          exact hq
        · simp only [if_neg c4]
          refine pu_some ?_
          simp only
          rw [hy I a6.1, if_pos c1, if_pos c2, if_pos c3, if_neg c4]
          exact pu_some ⟨rfl, hbad⟩
      · simp only [if_neg c3]
        refine pu_some ?_
        simp only
        rw [hy I a6.1, if_pos c1, if_pos c2, if_neg c3]
        exact pu_some ⟨rfl, hbad⟩
    · simp only [if_neg c2]
      refine pu_some ?_
      simp only
      rw [hy I a6.1, if_pos c1, if_neg c2]
      exact pu_some ⟨rfl, hbad⟩
  · simp only [if_neg c1]
    refine pu_some ?_
    simp only
    rw [hy I a6.1, if_neg c1]
    exact pu_some ⟨rfl, hbad⟩
theorem op_rest (h : rl_W K I R x y n d rb ky g rc rf rt xc xk xt) (v tt : Int32) (hfu : 200 ≤ fu) : pu_ok (f_X6_rest fu x v tt (K, I, R, N)) (fun r => pu_ok (f_X7_rest fu y v tt r.2) (fun q => r.1 = q.1 ∧ rl_V x y q.2)) := by
  obtain ⟨a1, a2, a3, a4, a5, a6, a7, a8, a9, a10, a11⟩ := id h
  have h2 := a1.n2
  have hbad : rl_V x y (K, I, R, N) := ⟨K, I, R, N, n, d, rb, ky, g, rc, rf, rt, xc, xk, xt, rfl, h⟩
  simp only [f_X6_rest, f_X6_rest_B15, pu_is a1.k, in_xv a1, in_time, in_x, in_ite, Option.bind_some]
  have hy : ∀ I1 : Nat → Nat → Int32, I1 y 0 = nI n → f_X7_rest fu y v tt (K, I1, R, N) = if 0 ≤ v ∧ v ≤ nI (n - 1) then (if 0 ≤ tt ∧ tt ≤ 999 then (f_X7_add fu y v tt (-1) 0 (K, I1, R, N)) else some (-2, (K, I1, R, N))) else some (-2, (K, I1, R, N)) := by
    intro I1 hI1
    simp only [f_X7_rest, f_X7_rest_B30, f_X7_rest_B32, pu_is a2.k, in_yv a2 hI1 h2, in_y, in_ite, Option.bind_some]
    have : (f_X7_add fu y v tt (-1) 0 (K, I1, R, N)).bind (fun x => match x with | (v2, z) => some (v2, z)) = f_X7_add fu y v tt (-1) 0 (K, I1, R, N) := by
      cases f_X7_add fu y v tt (-1) 0 (K, I1, R, N) <;> rfl
    simp only [this]
  by_cases c1 : 0 ≤ v ∧ v ≤ nI (n - 1)
  · simp only [if_pos c1]
    by_cases c2 : 0 ≤ tt ∧ tt ≤ 999
    · simp only [if_pos c2]
      obtain ⟨k, k1, rfl⟩ := in_rng rfl (by have := a1.n5; omega) c1
      obtain ⟨t, t1, rfl⟩ := in_rng (m := 999) rfl (by decide) c2
      refine pu_bind (pu_mono (op_app h (v := k) (tt := t) (by omega) (by omega) (Or.inl ⟨rfl, rfl⟩) hfu) ?_)
      rintro ⟨r, _⟩ ⟨hq, I1, rfl, hI1⟩
      refine pu_some ?_
      simp only
      rw [hy I1 hI1, if_pos c1, if_pos c2]
      exact hq
    · simp only [if_neg c2]
      refine pu_some ?_
      simp only
      rw [hy I a6.1, if_pos c1, if_neg c2]
      exact pu_some ⟨rfl, hbad⟩
  · simp only [if_neg c1]
    refine pu_some ?_
    simp only
    rw [hy I a6.1, if_neg c1]
    exact pu_some ⟨rfl, hbad⟩
end OP3
