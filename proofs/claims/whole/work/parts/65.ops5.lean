/-! grid, event, repeat -/
section OP5
variable {K : Nat → Nat × Nat} {I I' : Nat → Nat → Int32} {R : Nat → Nat → Option Nat} {N fu x y n p s e len c : Nat} {d d' : rl_D} {rb ky : Int32} {g rc : Nat} {rf rt : Nat → Nat} {xc : Nat} {xk xt : Nat → Nat} {tm : Nat → Nat}
theorem op_grid2 (h : rl_W K I R x y n d rb ky g rc rf rt xc xk xt) {q : Nat} (hq : q = 0 ∨ 10 ≤ q ∧ q ≤ 500) (hfu : 1100 ≤ fu) : pu_ok (f_X6_grid_B19 fu x (nI q) (K, I, R, N)) (fun r => pu_ok (f_X7_grid_B19 fu y (nI q) r.2) (fun w => r.1 = w.1 ∧ rl_V x y w.2)) := by
  obtain ⟨a1, a2, a3, a4, a5, a6, a7, a8, a9, a10, a11⟩ := id h
  have ht : sp_t x n = x + 2 + 4 * n := rfl
  simp only [f_X6_grid_B19, pu_pi a1.k, pu_gr a1.k a1.t.1, pu_gr a1.k a1.a.1, pu_is a1.t.2.1, Option.bind_some]
  refine pu_bind (pu_mono (xa_gather (I := hp_set I x 8 (nI q)) a1 (a5.keep (fun b _ _ => pu_set_row _ _ _ _ (by omega))) a4.1 hq (by omega)) ?_)
  rintro _ ⟨I1, rfl, u1, u2⟩
  simp only [pu_gr a1.k a1.t.1, pu_gi a1.t.2.1, Option.bind_some]
  refine pu_some ?_
  simp only [f_X7_grid_B19, pu_pi a2.k, pu_is a2.k, Option.bind_some]
  have k1 : ∀ b, b ≠ x → b < sp_t x n ∨ sp_t x n + 3 ≤ b → I1 b = I b := fun b q1 q2 => by rw [u1 b q2, pu_set_row _ _ _ _ q1]
  have kx8 : ∀ k, k ≠ 8 → I1 x k = I x k := fun k hk => by rw [u1 x (by omega), pu_set_off _ _ _ _ hk]
  have h6 : rl_Y1 (hp_set I1 y 9 (nI q)) y n d := a6.keep (by rw [pu_set_off _ _ _ _ (by decide), k1 y (by omega) (by omega)]) (fun b q1 q2 => by rw [pu_set_row _ _ _ _ (by omega), k1 b (by omega) (by omega)])
  refine pu_bind (pu_mono (lr_learn (g := q) a2 (rl_YE h6) a4.1 a1.n5 (pu_set_at _ _ _ _) hq hfu) ?_)
  rintro _ ⟨J, c, T, rfl, j1, j2, j3, j4, j5, j6, j7⟩
  simp only [pu_gi a2.k, Option.bind_some]
  obtain ⟨c', T', i1, i2, i3, i4⟩ := id u2
  have kk : ∀ b, b ≠ x → b ≠ y → b ≠ y + 12 → b ≠ y + 13 → b < sp_t x n ∨ sp_t x n + 3 ≤ b → J b = I b := fun b q1 q2 q3 q4 q5 => by rw [j1 b q2 q3 q4, pu_set_row _ _ _ _ q2]; exact k1 b q1 q5
  have ky' : ∀ k, k ≠ 16 → k ≠ 9 → J y k = I y k := fun k q1 q2 => by rw [j2 k q1, pu_set_off _ _ _ _ q2, k1 y (by omega) (by omega)]
  have kt : ∀ b, b ≠ y → b ≠ y + 12 → b ≠ y + 13 → J b = I1 b := fun b q2 q3 q4 => by rw [j1 b q2 q3 q4, pu_set_row _ _ _ _ q2]
  refine pu_some ⟨?_, K, J, R, N, n, d, rb, ky, q, rc, rf, rt, xc, xk, xt, rfl, a1, a2, a3, a4, a5.keep (fun b q1 q2 => kk b (by omega) (by omega) (by omega) (by omega) (by omega)), a6.keep (ky' 0 (by decide) (by decide)) (fun b q1 q2 => kk b (by omega) (by omega) (by omega) (by omega) (by omega)), ?_, ⟨a8.1.keep (kk _ (by omega) (by omega) (by omega) (by omega) (by omega)) (kk _ (by omega) (by omega) (by omega) (by omega) (by omega)) (kk _ (by omega) (by omega) (by omega) (by omega) (by omega)) (ky' _ (by decide) (by decide)) (kk _ (by omega) (by omega) (by omega) (by omega) (by omega)) (kk _ (by omega) (by omega) (by omega) (by omega) (by omega)), a8.2⟩, ⟨a9.1.keep (kk _ (by omega) (by omega) (by omega) (by omega) (by omega)) (kk _ (by omega) (by omega) (by omega) (by omega) (by omega)) (kk _ (by omega) (by omega) (by omega) (by omega) (by omega)) (ky' _ (by decide) (by decide)) (kk _ (by omega) (by omega) (by omega) (by omega) (by omega)) (kk _ (by omega) (by omega) (by omega) (by omega) (by omega)), a9.2⟩, u2.keep (by rw [kt _ (by omega) (by omega) (by omega)]) (kt _ (by omega) (by omega) (by omega)), a11.keep (kk _ (by omega) (by omega) (by omega) (by omega) (by omega)) (kk _ (by omega) (by omega) (by omega) (by omega) (by omega)) (kk _ (by omega) (by omega) (by omega) (by omega) (by omega)) (kk _ (by omega) (by omega) (by omega) (by omega) (by omega)) (ky' _ (by decide) (by decide)) (ky' _ (by decide) (by decide)) (kk _ (by omega) (by omega) (by omega) (by omega) (by omega)) (kk _ (by omega) (by omega) (by omega) (by omega) (by omega))⟩
  · show I1 (sp_t x n) 1 = J y 16
    rw [i1, j3, (i4.uniq j6).1]
  · obtain ⟨b1, b2, b3, b4, b5, b6, b7, b8, b9⟩ := a7
    have kx0 : ∀ k, k ≠ 8 → J x k = I x k := fun k hk => by rw [kt x (by omega) (by omega) (by omega)]; exact kx8 k hk
    refine ⟨by rw [kx0 _ (by decide)]; exact b1, by rw [kx0 _ (by decide)]; exact b2, ?_, fun k hk => by rw [kk _ (by omega) (by omega) (by omega) (by omega) (by omega)]; exact b4 k hk, by rw [ky' _ (by decide) (by decide)]; exact b5, ?_, hq, b8, b9⟩
    · rw [kt x (by omega) (by omega) (by omega), u1 x (by omega), pu_set_at]
    · rw [j2 9 (by decide), pu_set_at]
theorem op_grid (h : rl_W K I R x y n d rb ky g rc rf rt xc xk xt) (v : Int32) (hfu : 1100 ≤ fu) : pu_ok (f_X6_grid fu x v (K, I, R, N)) (fun r => pu_ok (f_X7_grid fu y v r.2) (fun w => r.1 = w.1 ∧ rl_V x y w.2)) := by
  simp only [f_X6_grid, f_X7_grid, in_x, in_y, in_ite, Option.bind_some]
  by_cases h0 : v = 0
  · subst h0
    simp only [if_true]
    exact op_grid2 (q := 0) h (Or.inl rfl) hfu
  · simp only [if_neg h0]
    by_cases hc : 10 ≤ v ∧ v ≤ 500
    · simp only [if_pos hc]
      obtain ⟨k, k1, rfl⟩ := in_rng (m := 500) rfl (by decide) ⟨Int32.le_trans (by decide) hc.1, hc.2⟩
      have k2 : 10 ≤ k := (nI_leI (a := 10) (by decide) (by omega)).mp hc.1
      exact op_grid2 h (Or.inr ⟨k2, k1⟩) hfu
    · simp only [if_neg hc]
      exact pu_some (pu_some ⟨rfl, K, I, R, N, n, d, rb, ky, g, rc, rf, rt, xc, xk, xt, rfl, h⟩)
theorem pa_isNote (hp : sp_P K R p) {i : Nat} (hi : i < 24) : f_X4_isNote fu p (nI i) (K, I, R, N) = some (if I (p + 2) i = -1 then 0 else 1, (K, I, R, N)) := by
  simp only [f_X4_isNote, f_X4_isNote_B15, pu_gr hp.1 hp.2.2.1, pu_li hp.2.2.2.2.2.1 hi (by decide), Option.bind_some, pu_vn0, pu_vn1, if_true]
  split <;> rfl
theorem op_event (h : rl_W K I R x y n d rb ky g rc rf rt xc xk xt) (v i w : Int32) : pu_ok (f_X6_event fu x v i w (K, I, R, N)) (fun r => pu_ok (f_X7_event fu y v i w r.2) (fun q => r.1 = q.1 ∧ rl_V x y q.2)) := by
  obtain ⟨a1, a2, a3, a4, a5, a6, a7, a8, a9, a10, a11⟩ := id h
  have h2 := a1.n2
  have h5 := a1.n5
  have hV : rl_V x y (K, I, R, N) := ⟨K, I, R, N, n, d, rb, ky, g, rc, rf, rt, xc, xk, xt, rfl, h⟩
  have both : ∀ r : Int32, f_X6_event fu x v i w (K, I, R, N) = some (r, (K, I, R, N)) → f_X7_event fu y v i w (K, I, R, N) = some (r, (K, I, R, N)) → pu_ok (f_X6_event fu x v i w (K, I, R, N)) (fun r => pu_ok (f_X7_event fu y v i w r.2) (fun q => r.1 = q.1 ∧ rl_V x y q.2)) := by
    intro r e1 e2
    rw [e1]
    refine pu_some ?_
    simp only
    rw [e2]
    exact pu_some ⟨rfl, hV⟩
  by_cases c1 : 0 ≤ v ∧ v ≤ nI (n - 1)
  · obtain ⟨k, k1, rfl⟩ := in_rng rfl (by omega) c1
    have hk : k < n := by omega
    obtain ⟨hr, hp⟩ := a1.p hk
    obtain ⟨e1, e2, e3, e4⟩ := a5 k hk
    obtain ⟨f1, f2, f3, f4⟩ := a6.2 k hk
    have o1 := (a4.1 k hk).1
    have q2 : ho_lr 4 (x + 1) (nI k) (K, I, R, N) = some (x + 2 + 4 * k) := pu_lr a1.a.2.1 hk (by omega) hr
    by_cases c2 : 0 ≤ i ∧ i ≤ nI (d.1 k) - 1
    · obtain ⟨j, j1, rfl⟩ := in_lt (by omega) c2
      obtain ⟨g1, g2, g3⟩ := e4 j j1
      obtain ⟨l1, l2, l3⟩ := f4 j j1
      by_cases c3 : 0 ≤ w ∧ w ≤ 2
      · refine both (if w = 0 then nI (d.2.1 k j) else if w = 1 then d.2.2.1 k j else if d.2.2.1 k j = -1 then 0 else d.2.2.2.1 k j + 2) ?_ ?_
        · simp only [f_X6_event, f_X6_event_B94, pu_is a1.k, in_xv a1, in_ite, Option.bind_some, pu_gr a1.k a1.a.1, q2, pu_gi hp.1, e1, in_x]
          rw [if_pos c1, if_pos c2, if_pos c3]
          simp only [pu_is hp.1, pu_gr hp.1 hp.2.1, pu_gr hp.1 hp.2.2.1, pu_gr hp.1 hp.2.2.2.1, pa_isNote hp (show j < 24 by omega), pu_li hp.2.2.2.2.1 (show j < 24 by omega) (by decide), pu_li hp.2.2.2.2.2.1 (show j < 24 by omega) (by decide), pu_li hp.2.2.2.2.2.2 (show j < 24 by omega) (by decide), Option.bind_some, g1, g2, g3]
          by_cases w0 : w = 0
          · rw [if_pos w0, if_pos w0]
          · rw [if_neg w0, if_neg w0]
            by_cases w1 : w = 1
            · rw [if_pos w1, if_pos w1]
            · rw [if_neg w1, if_neg w1]
              by_cases hr2 : d.2.2.1 k j = -1
              · simp only [if_pos hr2, if_true]
              · simp only [if_neg hr2]
                rw [if_neg (by decide : ¬ (1 : Int32) = 0)]
        · simp only [f_X7_event, f_X7_event_B97, pu_is a2.k, in_yv a2 a6.1 h2, in_ite, Option.bind_some, pu_gr a2.k a2.f1.1, pu_li a2.f1.2 (show k < 5 by omega) (by decide), f1, in_y]
          rw [if_pos c1, if_pos c2, if_pos c3]
          simp only [ho_id, lr_ix, Option.bind_some, pu_gr a2.k a2.f2.1, pu_gr a2.k a2.f3.1, pu_gr a2.k a2.f4.1, pu_li a2.f2.2 (show 24 * k + j < 120 by omega) (by decide), pu_li a2.f3.2 (show 24 * k + j < 120 by omega) (by decide), pu_li a2.f4.2 (show 24 * k + j < 120 by omega) (by decide), l1, l2, l3]
          by_cases w0 : w = 0
          · rw [if_pos w0, if_pos w0]
          · rw [if_neg w0, if_neg w0]
            by_cases w1 : w = 1
            · rw [if_pos w1, if_pos w1]
            · rw [if_neg w1, if_neg w1]
              by_cases hr2 : d.2.2.1 k j = -1
              · rw [if_pos hr2, if_pos hr2]
              · rw [if_neg hr2, if_neg hr2]
      · refine both (-2) ?_ ?_
        · simp only [f_X6_event, f_X6_event_B36, pu_is a1.k, in_xv a1, in_ite, Option.bind_some, pu_gr a1.k a1.a.1, q2, pu_gi hp.1, e1, in_x]
          rw [if_pos c1, if_pos c2, if_neg c3]
        · simp only [f_X7_event, f_X7_event_B33, pu_is a2.k, in_yv a2 a6.1 h2, in_ite, Option.bind_some, pu_gr a2.k a2.f1.1, pu_li a2.f1.2 (show k < 5 by omega) (by decide), f1, in_y]
          rw [if_pos c1, if_pos c2, if_neg c3]
    · refine both (-2) ?_ ?_
      · simp only [f_X6_event, f_X6_event_B36, pu_is a1.k, in_xv a1, in_ite, Option.bind_some, pu_gr a1.k a1.a.1, q2, pu_gi hp.1, e1, in_x]
        rw [if_pos c1, if_neg c2]
      · simp only [f_X7_event, f_X7_event_B33, pu_is a2.k, in_yv a2 a6.1 h2, in_ite, Option.bind_some, pu_gr a2.k a2.f1.1, pu_li a2.f1.2 (show k < 5 by omega) (by decide), f1, in_y]
        rw [if_pos c1, if_neg c2]
  · refine both (-2) ?_ ?_
    · simp only [f_X6_event, f_X6_event_B36, pu_is a1.k, in_xv a1, in_ite, Option.bind_some]
      rw [if_neg c1]
    · simp only [f_X7_event, f_X7_event_B33, pu_is a2.k, in_yv a2 a6.1 h2, in_ite, Option.bind_some]
      rw [if_neg c1]
/-- one couple more -/
theorem en_append (hN : sp_N K R e len) (hc : I e 2 = nI c) (hcl : c ≤ len) (hl : len < 2 ^ 31) (a b : Int32) : f_X1_append fu e a b (K, I, R, N) = some (if c = len then (-3, (K, I, R, N)) else (nI (c + 1), (K, hp_set (hp_set (hp_set I (e + 1) c a) (e + 2) c b) e 2 (nI (c + 1)), R, N))) := by
  simp only [f_X1_append, pu_gi hN.1, pu_gr hN.1 hN.2.1, pu_ln hN.2.2.2.1, Option.bind_some, hc]
  by_cases h : c = len
  · rw [if_neg (nI_nlt (by omega) (by omega)), if_pos h]
  · rw [if_pos (nI_lt (by omega) (by omega)), if_neg h, pu_si hN.2.2.2.1 (by omega) hl]
    have r1 : hp_set I (e + 1) c a e 2 = nI c := by rw [pu_set_row _ _ _ _ (by omega)]; exact hc
    simp only [Option.bind_some, pu_gi hN.1, r1, pu_gr hN.1 hN.2.2.1]
    rw [pu_si hN.2.2.2.2 (by omega) hl]
    have r2 : hp_set (hp_set I (e + 1) c a) (e + 2) c b e 2 = nI c := by rw [pu_set_row _ _ _ _ (by omega)]; exact r1
    simp only [Option.bind_some, pu_gi hN.1, r2, pu_pi hN.1, nI_1, pu_set_at]
/-- a couple more on both sides -/
theorem rl_3.add {most k b : Nat} {pp qq : Nat → Nat} (h : rl_3 I e y k b most c pp qq) (hlt : c < most) {a a' : Nat} (ha : a < 1000) (ha' : a' < 1000) {J : Nat → Nat → Int32} (h1 : J e 2 = nI (c + 1)) (h2 : J y k = nI (c + 1)) (h3 : ∀ i, J (e + 1) i = if i = c then nI a else I (e + 1) i) (h4 : ∀ i, J (e + 2) i = if i = c then nI a' else I (e + 2) i) (h5 : ∀ i, J b i = if i = c then nI a else I b i) (h6 : ∀ i, J (b + 1) i = if i = c then nI a' else I (b + 1) i) : rl_3 J e y k b most (c + 1) (fun i => if i = c then a else pp i) (fun i => if i = c then a' else qq i) := by
  refine ⟨by omega, h1, h2, fun i hi => ?_⟩
  rw [h3, h4, h5, h6]
  by_cases hq : i = c
  · simp only [if_pos hq]
    exact ⟨trivial, trivial, trivial, trivial, ha, ha'⟩
  · simp only [if_neg hq]
    exact h.2.2.2 i (by omega)
end OP5
