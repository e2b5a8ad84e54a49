/-! take, time, grid, event -/
def tk_d (d : rl_D) (v : Nat) : rl_D := (fun u => if u = v then d.1 v - 1 else d.1 u, d.2)
theorem in_lt {v : Int32} {c : Nat} (hc : c < 2 ^ 31) (h : 0 ≤ v ∧ v ≤ nI c - 1) : ∃ k, k < c ∧ v = nI k := by
  cases c with
  | zero =>
    exfalso
    have h1 := Int32.le_iff_toInt_le.mp h.1
    have h2 := Int32.le_iff_toInt_le.mp h.2
    rw [show (nI 0 - 1).toInt = -1 from rfl] at h2
    rw [Int32.toInt_zero] at h1
    omega
  | succ c =>
    rw [nI_pred] at h
    obtain ⟨k, k1, k2⟩ := in_rng rfl (by omega) h
    exact ⟨k, by omega, k2⟩
section OP4
variable {K : Nat → Nat × Nat} {I I' : Nat → Nat → Int32} {R : Nat → Nat → Option Nat} {N fu x y n p s : Nat} {d d' : rl_D} {rb ky : Int32} {g rc : Nat} {rf rt : Nat → Nat} {xc : Nat} {xk xt : Nat → Nat} {tm : Nat → Nat}
theorem tk_ok {v : Nat} (hd : rl_ok n d) : rl_ok n (tk_d d v) := by
  have hle : ∀ u, (tk_d d v).1 u ≤ d.1 u := fun u => by
    show (if u = v then d.1 v - 1 else d.1 u) ≤ d.1 u
    split
    · rename_i q; rw [q]; omega
    · exact Nat.le_refl _
  refine ⟨fun u hu => ?_, fun u hu i hi => hd.2 u hu i (Nat.lt_of_lt_of_le hi (hle u))⟩
  obtain ⟨b1, b2, b3⟩ := hd.1 u hu
  exact ⟨Nat.le_trans (hle u) b1, fun i hi => b2 i (Nat.lt_of_lt_of_le hi (hle u)), fun i j hij hj => b3 i j hij (Nat.lt_of_lt_of_le hj (hle u))⟩
theorem op_take (h : rl_W K I R x y n d rb ky g rc rf rt xc xk xt) (v : Int32) (hfu : 200 ≤ fu) : pu_ok (f_X6_take fu x v (K, I, R, N)) (fun r => pu_ok (f_X7_take fu y v r.2) (fun q => r.1 = q.1 ∧ rl_V x y q.2)) := by
  obtain ⟨a1, a2, a3, a4, a5, a6, a7, a8, a9, a10, a11⟩ := id h
  have ht : sp_t x n = x + 2 + 4 * n := rfl
  have h2 := a1.n2
  have h5 := a1.n5
  simp only [f_X6_take, pu_is a1.k, in_xv a1, in_ite, Option.bind_some]
  by_cases c1 : 0 ≤ v ∧ v ≤ nI (n - 1)
  · simp only [if_pos c1]
    obtain ⟨k, k1, rfl⟩ := in_rng rfl (by omega) c1
    have hk : k < n := by omega
    obtain ⟨hr, hp⟩ := a1.p hk
    obtain ⟨e1, e2, e3, e4⟩ := a5 k hk
    have o1 := (a4.1 k hk).1
    have q2 : ho_lr 4 (x + 1) (nI k) (K, I, R, N) = some (x + 2 + 4 * k) := pu_lr a1.a.2.1 hk (by omega) hr
    simp only [pu_gr a1.k a1.a.1, q2, pu_is hp.1, Option.bind_some, f_X4_dropLast, pu_gi hp.1, e1]
    have hgr : ∀ (I1 : Nat → Nat → Int32) (r : Int32) (d1 : rl_D), rl_X1 I1 x n d1 → rl_ok n d1 → (∀ c, c < x + 2 ∨ sp_t x n ≤ c → I1 c = I c) → (∀ I2 : Nat → Nat → Int32, (∀ c, c < x + 2 ∨ sp_t x n + 3 ≤ c → I2 c = I c) → rl_X1 I2 x n d1 → rl_4 I2 (sp_t x n) (sp_isM n d1.1 d1.2.1 g) → pu_ok (f_X7_take fu y (nI k) (K, I2, R, N)) (fun q => r = q.1 ∧ rl_V x y q.2)) →
        pu_ok (((ho_gr 6 x 1 (K, I1, R, N)).bind fun r5 => (ho_gr 6 x 0 (K, I1, R, N)).bind fun r6 => (ho_gi 6 x 8 (K, I1, R, N)).bind fun v7 => (ho_is 5 r5 (K, I1, R, N)).bind fun _ => (f_X5_gather fu r5 r6 v7 (K, I1, R, N)).bind fun z => some (r, z))) (fun r => pu_ok (f_X7_take fu y (nI k) r.2) (fun q => r.1 = q.1 ∧ rl_V x y q.2)) := by
      intro I1 r d1 w1 w2 w3 w4
      have k8 : I1 x 8 = nI g := by rw [w3 x (by omega)]; exact a7.2.2.1
      simp only [pu_gr a1.k a1.a.1, pu_gr a1.k a1.t.1, pu_gi a1.k, pu_is a1.t.2.1, Option.bind_some, k8]
      refine pu_bind (pu_mono (xa_gather a1 w1 w2.1 a7.2.2.2.2.2.2.1 hfu) ?_)
      rintro _ ⟨I2, rfl, u1, u2⟩
      exact pu_some (w4 I2 (fun c hc => by rw [u1 c (by omega)]; exact w3 c (by omega)) (w1.keep (fun c _ _ => u1 c (by omega))) u2)
    have hyt : ∀ I2 : Nat → Nat → Int32, rl_Y1 I2 y n d → f_X7_take fu y (nI k) (K, I2, R, N) = if d.1 k = 0 then some (-1, (K, I2, R, N)) else some (nI (d.1 k - 1), (K, hp_set I2 (y + 1) k (nI (d.1 k - 1)), R, N)) := by
      intro I2 h6
      obtain ⟨f1, -⟩ := h6.2 k hk
      simp only [f_X7_take, pu_is a2.k, in_yv a2 h6.1 h2, in_ite, Option.bind_some]
      simp only [if_pos c1, pu_gr a2.k a2.f1.1, pu_li a2.f1.2 (show k < 5 by omega) (by decide), f1, Option.bind_some]
      by_cases h0 : d.1 k = 0
      · rw [if_pos (by rw [h0, nI_0]), if_pos h0]
      · obtain ⟨m, hm⟩ : ∃ m, d.1 k = m + 1 := ⟨d.1 k - 1, by omega⟩
        rw [if_neg (nI_ne0 (by omega) (by omega)), if_neg h0, hm, nI_pred, pu_si a2.f1.2 (show k < 5 by omega) (by decide)]
        simp only [Option.bind_some, pu_gr a2.k a2.f1.1, pu_li a2.f1.2 (show k < 5 by omega) (by decide), pu_set_at, Nat.add_sub_cancel]
    by_cases h0 : d.1 k = 0
    · rw [if_pos (show nI (d.1 k) = 0 by rw [h0, nI_0])]
      simp only [Option.bind_some]
      refine hgr I (-1) d a5 a4 (fun _ _ => rfl) (fun I2 u1 u2 u3 => ?_)
      have h6 : rl_Y1 I2 y n d := a6.keep (by rw [u1 y (by omega)]) (fun c _ _ => u1 c (by omega))
      rw [hyt I2 h6, if_pos h0]
      exact pu_some ⟨rfl, K, I2, R, N, n, d, rb, ky, g, rc, rf, rt, xc, xk, xt, rfl, h.ev a4 u2 h6 u3 (fun c q1 _ => u1 c q1)⟩
    · obtain ⟨m, hm⟩ : ∃ m, d.1 k = m + 1 := ⟨d.1 k - 1, by omega⟩
      rw [if_neg (show ¬ nI (d.1 k) = 0 from nI_ne0 (by omega) (by omega)), hm, nI_pred]
      simp only [pu_pi hp.1, Option.bind_some, pu_gi hp.1, pu_set_at]
      have hX1 : rl_X1 (hp_set I (x + 2 + 4 * k) 3 (nI m)) x n (tk_d d k) := by
        intro u hu
        obtain ⟨w1, w2, w3, w4⟩ := a5 u hu
        by_cases hq : u = k
        · subst hq
          simp only [tk_d, if_true]
          refine ⟨by rw [pu_set_at, hm, Nat.add_sub_cancel], by rw [pu_set_off _ _ _ _ (by decide)]; exact w2, by rw [pu_set_off _ _ _ _ (by decide)]; exact w3, fun i hi => ?_⟩
          rw [pu_set_row _ _ _ _ (by omega), pu_set_row _ _ _ _ (by omega), pu_set_row _ _ _ _ (by omega)]
          exact w4 i (by omega)
        · simp only [tk_d, if_neg hq]
          rw [pu_set_row _ _ _ _ (by omega), pu_set_row _ _ _ _ (by omega), pu_set_row _ _ _ _ (by omega), pu_set_row _ _ _ _ (by omega)]
          exact ⟨w1, w2, w3, w4⟩
      refine hgr _ (nI m) (tk_d d k) hX1 (tk_ok a4) (fun c hc => by rw [pu_set_row _ _ _ _ (by omega)]) (fun I2 u1 u2 u3 => ?_)
      have h6 : rl_Y1 I2 y n d := a6.keep (by rw [u1 y (by omega)]) (fun c _ _ => u1 c (by omega))
      rw [hyt I2 h6, if_neg h0, hm, Nat.add_sub_cancel]
      refine pu_some ⟨rfl, K, _, R, N, n, tk_d d k, rb, ky, g, rc, rf, rt, xc, xk, xt, rfl, h.ev (tk_ok a4) (u2.keep (fun c _ _ => pu_set_row _ _ _ _ (by omega))) ⟨by rw [pu_set_row _ _ _ _ (by omega)]; exact h6.1, fun u hu => ?_⟩ (u3.keep (by rw [pu_set_row _ _ _ _ (by omega)]) (pu_set_row _ _ _ _ (by omega))) (fun c q1 q2 => by rw [pu_set_row _ _ _ _ (by omega)]; exact u1 c q1)⟩
      obtain ⟨w1, w2, w3, w4⟩ := h6.2 u hu
      have z2 : ∀ c, c ≠ y + 1 → hp_set I2 (y + 1) k (nI m) c = I2 c := fun c hc => pu_set_row _ _ _ _ hc
      rw [z2 (y + 2) (by omega), z2 (y + 3) (by omega), z2 (y + 4) (by omega), z2 (y + 5) (by omega), z2 (y + 6) (by omega), pu_set]
      simp only [if_true, tk_d]
      by_cases hq : u = k
      · subst hq
        simp only [if_true]
        exact ⟨by rw [hm, Nat.add_sub_cancel], w2, w3, fun i hi => w4 i (by omega)⟩
      · simp only [if_neg hq]
        exact ⟨w1, w2, w3, w4⟩
  · simp only [if_neg c1]
    refine pu_some ?_
    simp only [f_X7_take, pu_is a2.k, in_yv a2 a6.1 h2, in_ite, Option.bind_some, if_neg c1]
    exact pu_some ⟨rfl, K, I, R, N, n, d, rb, ky, g, rc, rf, rt, xc, xk, xt, rfl, h⟩
theorem op_time (h : rl_W K I R x y n d rb ky g rc rf rt xc xk xt) (v : Int32) (hfu : 1100 ≤ fu) : pu_ok (f_X6_time fu x v (K, I, R, N)) (fun r => pu_ok (f_X7_time fu y v r.2) (fun q => r.1 = q.1 ∧ rl_V x y q.2)) := by
  obtain ⟨a1, a2, a3, a4, a5, a6, a7, a8, a9, a10, a11⟩ := id h
  obtain ⟨c, T, i1, i2, i3, i4⟩ := a10
  have hy : ∀ r : Int32, ((0 ≤ v ∧ v ≤ nI c - 1) → ∃ k, k < c ∧ v = nI k ∧ r = nI (T k)) → (¬ (0 ≤ v ∧ v ≤ nI c - 1) → r = -2) → pu_ok (f_X7_time fu y v (K, I, R, N)) (fun q => r = q.1 ∧ rl_V x y q.2) := by
    intro r hr1 hr2
    simp only [f_X7_time, f_X7_time_B29, pu_is a2.k, Option.bind_some]
    refine pu_bind (pu_mono (lr_learn a2 (rl_YE a6) a4.1 a1.n5 a7.2.2.2.2.2.1 a7.2.2.2.2.2.2.1 hfu) ?_)
    rintro _ ⟨J, c', T', rfl, j1, j2, j3, j4, j5, j6, j7⟩
    obtain ⟨u1, u2⟩ := i4.uniq j6
    subst u1
    have hV : rl_V x y (K, J, R, N) := ⟨K, J, R, N, n, d, rb, ky, g, rc, rf, rt, xc, xk, xt, rfl, h.scratch j1 j2⟩
    simp only [pu_gi a2.k, Option.bind_some, j3, in_y, in_ite, pu_gr a2.k a2.f17.1]
    by_cases hc : 0 ≤ v ∧ v ≤ nI c - 1
    · rw [if_pos hc]
      obtain ⟨k, k1, rfl, k3⟩ := hr1 hc
      rw [pu_li a2.f17.2 (by omega) (by decide), (j5 k k1).1]
      exact pu_some ⟨by rw [k3, u2 k k1], hV⟩
    · rw [if_neg hc]
      exact pu_some ⟨hr2 hc, hV⟩
  simp only [f_X6_time, f_X6_time_B22, f_X6_isMoment, pu_is a1.k, pu_gr a1.k a1.t.1, pu_gi a1.t.2.1, i1, in_x, in_vn, if_true, in_ite, Option.bind_some, pu_gr a1.t.2.1 a1.t.2.2.1]
  by_cases hc : 0 ≤ v ∧ v ≤ nI c - 1
  · rw [if_pos hc]
    obtain ⟨k, k1, rfl⟩ := in_lt (by omega) hc
    rw [pu_li a1.t.2.2.2.2.1 (by omega) (by decide), (i3 k k1).1]
    exact pu_some (hy _ (fun _ => ⟨k, k1, rfl, rfl⟩) (fun q => absurd hc q))
  · rw [if_neg hc]
    exact pu_some (hy _ (fun q => absurd q hc) (fun _ => rfl))
end OP4
