/-! style; heights; range -/
section OP8
variable {K : Nat → Nat × Nat} {I I' : Nat → Nat → Int32} {R : Nat → Nat → Option Nat} {N fu x y n p : Nat} {d d' : rl_D} {rb ky : Int32} {g rc : Nat} {rf rt : Nat → Nat} {xc : Nat} {xk xt : Nat → Nat}
set_option maxHeartbeats 4000000 in
theorem st_body {z : hp_S} (hr : ho_gr 7 y 7 z = some (y + 7)) (kk : Int32 → hp_S → Option (Int32 × hp_S)) (m : Nat) (w : Int32) {s i : Nat} (hs : s < 5) (hi : i < 14) : f_X7_style_L16 fu y (nI s) kk (m + 1) w (nI i) z = f_X7_style_B127 fu y (nI s) (f_X7_style_L16 fu y (nI s) kk m) kk w (nI i) (if st_b s i then 1 else 0) (nI i) (y + 7) z := by
  have h1 : s = 0 ∨ s = 1 ∨ s = 2 ∨ s = 3 ∨ s = 4 := by omega
  have h2 : i = 0 ∨ i = 1 ∨ i = 2 ∨ i = 3 ∨ i = 4 ∨ i = 5 ∨ i = 6 ∨ i = 7 ∨ i = 8 ∨ i = 9 ∨ i = 10 ∨ i = 11 ∨ i = 12 ∨ i = 13 := by omega
  rcases h1 with rfl | rfl | rfl | rfl | rfl <;> rcases h2 with rfl | rfl | rfl | rfl | rfl | rfl | rfl | rfl | rfl | rfl | rfl | rfl | rfl | rfl <;>
    simp [f_X7_style_L16, f_X7_style_B48, f_X7_style_B53, f_X7_style_B81, f_X7_style_B82, f_X7_style_B103, f_X7_style_B113, f_X7_style_B122, f_X7_style_B126, hr, st_b, nl_0, nl_1, nl_2, nl_3, nl_4, nl_5, nl_6, nl_7, nl_8, nl_9, nl_10, nl_11, nl_12, nl_13]
theorem st_loop (hY : sp_Y K R y) {s : Nat} (hs : s < 5) : ∀ (m i : Nat) (J : Nat → Nat → Int32), i ≤ 14 → 14 - i < m → (∀ b, b ≠ y + 7 → J b = I b) → (∀ k, k < i → J (y + 7) k = if st_b s k then 1 else 0) → pu_ok (f_X7_style_L16 fu y (nI s) (f_X7_style_B151 fu y (nI s)) m (nI (st_c s i)) (nI i) (K, J, R, N)) (fun q => q.1 = nI (st_c s 14) ∧ ∃ J', q.2 = (K, J', R, N) ∧ (∀ b, b ≠ y + 7 → J' b = I b) ∧ ∀ k, k < 14 → J' (y + 7) k = if st_b s k then 1 else 0) := by
  intro m
  induction m with
  | zero => intro i J h1 h2; omega
  | succ m ih =>
    intro i J h1 h2 h3 h4
    rcases Nat.lt_or_ge i 14 with hi | hi
    · rw [st_body (pu_gr hY.k hY.f7.1) _ m _ hs hi]
      simp only [f_X7_style_B127, f_X7_style_B143, pu_sz hY.f7.2 hi (by decide), Option.bind_some, pu_gr hY.k hY.f7.1, pu_li hY.f7.2 hi (by decide), pu_set_at, ho_id, nI_1, in_vn, in_ite]
      have hJ : ∀ k, k < i + 1 → hp_set J (y + 7) i (if st_b s i = true then 1 else 0) (y + 7) k = if st_b s k then 1 else 0 := by
        intro k hk
        rw [pu_set]
        simp only [if_true]
        by_cases q : k = i
        · rw [if_pos q, q]
        · rw [if_neg q]
          exact h4 k (by omega)
      have hJ2 : ∀ b, b ≠ y + 7 → hp_set J (y + 7) i (if st_b s i = true then 1 else 0) b = I b := fun b hb => by rw [pu_set_row _ _ _ _ hb]; exact h3 b hb
      have hstep : st_c s (i + 1) = st_c s i + (if st_b s i then 1 else 0) := rfl
      by_cases hb : st_b s i = true
      · rw [if_pos hb] at hstep
        have := ih (i + 1) _ (by omega) (by omega) hJ2 hJ
        rw [hstep] at this
        simp only [if_pos hb] at this ⊢
        exact this
      · rw [if_neg hb] at hstep
        have := ih (i + 1) _ (by omega) (by omega) hJ2 hJ
        rw [hstep, Nat.add_zero] at this
        simp only [if_neg hb, Int32.add_zero] at this ⊢
        exact this
    · have : i = 14 := by omega
      subst this
      simp only [f_X7_style_L16]
      rw [if_pos (show (14 : Int32) ≤ nI 14 from Int32.le_refl _)]
      exact pu_some ⟨rfl, J, rfl, h3, h4⟩
theorem st_bc (z : hp_S) {s : Nat} (hs : s < 5) : f_J6_bitCount fu (h_t0.getD s 0) z = some (nI (st_c s 14), z) := by
  have h1 : s = 0 ∨ s = 1 ∨ s = 2 ∨ s = 3 ∨ s = 4 := by omega
  rcases h1 with rfl | rfl | rfl | rfl | rfl <;> · simp only [f_J6_bitCount, ho_id, Option.bind_some]; refine congrArg (fun r => some (r, z)) ?_; decide +kernel
theorem op_style (h : rl_W K I R x y n d rb ky g rc rf rt xc xk xt) (v : Int32) (hfu : 100 ≤ fu) : pu_ok (f_X6_style fu x v (K, I, R, N)) (fun r => pu_ok (f_X7_style fu y v r.2) (fun q => r.1 = q.1 ∧ rl_V x y q.2)) := by
  obtain ⟨a1, a2, a3, a4, a5, a6, a7, a8, a9, a10, a11⟩ := id h
  have ht : sp_t x n = x + 2 + 4 * n := rfl
  simp only [f_X6_style, in_x, in_ite, Option.bind_some, show (5 : Int32) - 1 = 4 from rfl]
  by_cases c1 : 0 ≤ v ∧ v ≤ 4
  · simp only [if_pos c1]
    obtain ⟨s, s1, rfl⟩ := in_rng (m := 4) rfl (by decide) c1
    have ht0 : ho_tl h_t0 (nI s) = some (h_t0.getD s 0) := by
      unfold ho_tl
      rw [if_pos (nI_in (show s < h_t0.length by show s < 5; omega) (by decide)), nI_clamp (by omega)]
    simp only [ht0, pu_pi a1.k, pu_gi a1.k, pu_set_at, Option.bind_some, st_bc _ (show s < 5 by omega)]
    refine pu_some ?_
    simp only [f_X7_style, in_y, in_ite, Option.bind_some]
    rw [if_pos c1]
    have key := st_loop (I := hp_set I x 6 (h_t0.getD s 0)) (K := K) (R := R) (N := N) (fu := fu) a2 (show s < 5 by omega) fu 0 (hp_set I x 6 (h_t0.getD s 0)) (by omega) (by omega) (fun _ _ => rfl) (fun k hk => absurd hk (Nat.not_lt_zero _))
    rw [show st_c s 0 = 0 from rfl, nI_0] at key
    refine pu_mono key ?_
    rintro ⟨r, _⟩ ⟨hr, J, rfl, j1, j2⟩
    refine ⟨hr.symm, rl_rules h (rb' := h_t0.getD s 0) (fun b q1 q2 => by rw [j1 b q2, pu_set_row _ _ _ _ q1]) (fun k q => by rw [j1 x (by omega), pu_set_off _ _ _ _ q]) (by rw [j1 x (by omega), pu_set_at]) (fun k hk => ?_)⟩
    rw [j2 k hk]
    exact st_tab s (by omega) k hk
  · simp only [if_neg c1]
    refine pu_some ?_
    simp only [f_X7_style, in_y, in_ite, Option.bind_some]
    rw [if_neg c1]
    exact pu_some ⟨rfl, K, I, R, N, n, d, rb, ky, g, rc, rf, rt, xc, xk, xt, rfl, h⟩
/-- the height of a step, with a sharpness -/
def ht_N (k : Nat) (h : Int32) : Int32 := ((12 * nI (k / 7)) + nI ([0, 2, 4, 5, 7, 9, 11].getD (k % 7) 0)) + h
theorem ht_x (hp : sp_P K R p) {i k : Nat} (hi : i < 24) (hk : k ≤ 55) (hs : I (p + 2) i = nI k) : f_X4_heightOf fu p (nI i) (K, I, R, N) = some (ht_N k (I (p + 3) i), (K, I, R, N)) := by
  have h7 : (7 : Int32) = nI 7 := rfl
  have hd : ho_dv (nI k) 7 = some (nI (k / 7)) := by
    unfold ho_dv
    rw [if_neg (by decide), h7, pk_div (by omega) (by decide) (by decide)]
  have hr : ho_rm (nI k) 7 = some (nI (k % 7)) := by
    unfold ho_rm
    rw [if_neg (by decide), h7, pk_rem (by omega) (by decide) (by decide)]
  have hm : k % 7 < 7 := Nat.mod_lt _ (by decide)
  have htl : ho_tl h_t1 (nI (k % 7)) = some (h_t1.getD (k % 7) 0) := by
    unfold ho_tl
    rw [if_pos (nI_in (show k % 7 < h_t1.length from hm) (by decide)), nI_clamp (by omega)]
  have hv : h_t1.getD (k % 7) 0 = nI ([0, 2, 4, 5, 7, 9, 11].getD (k % 7) 0) := by
    generalize k % 7 = r at hm ⊢
    have : r = 0 ∨ r = 1 ∨ r = 2 ∨ r = 3 ∨ r = 4 ∨ r = 5 ∨ r = 6 := by omega
    rcases this with rfl | rfl | rfl | rfl | rfl | rfl | rfl <;> rfl
  simp only [f_X4_heightOf, pu_gr hp.1 hp.2.2.1, pu_gr hp.1 hp.2.2.2.1, pu_li hp.2.2.2.2.2.1 hi (by decide), pu_li hp.2.2.2.2.2.2 hi (by decide), hs, Option.bind_some, hd, hr, htl, hv]
  rw [if_pos (nI_pos' (by omega))]
  rfl
theorem ht_scale (fu : Nat) (z : hp_S) {r : Nat} (hr : r < 7) : f_X7_scale fu (nI r) z = some (nI ([0, 2, 4, 5, 7, 9, 11].getD r 0), z) := by
  have : r = 0 ∨ r = 1 ∨ r = 2 ∨ r = 3 ∨ r = 4 ∨ r = 5 ∨ r = 6 := by omega
  rcases this with rfl | rfl | rfl | rfl | rfl | rfl | rfl <;> rfl
theorem ht_y0 (hY : sp_Y K R y) {e s h a r q : Int32} (h3 : ho_li 1 (y + 3) e (K, I, R, N) = some s) (h4 : ho_li 1 (y + 4) e (K, I, R, N) = some h) (hd : ho_dv s 7 = some a) (hr : ho_rm s 7 = some r) (hsc : ∀ z, f_X7_scale fu r z = some (q, z)) : f_X7_heightOf fu y e (K, I, R, N) = some (((12 * a) + q) + h, (K, I, R, N)) := by
  unfold f_X7_heightOf
  rw [pu_gr hY.k hY.f3.1, Option.bind_some, h3, Option.bind_some, hd, Option.bind_some]
  rw [Option.bind_some, h3, Option.bind_some, hr, Option.bind_some, hsc, Option.bind_some]
  show ((ho_gr 7 y 4 (K, I, R, N)).bind fun r8 => (ho_li 1 r8 e (K, I, R, N)).bind fun v9 => some (((12 * a) + q) + v9, (K, I, R, N))) = _
  rw [pu_gr hY.k hY.f4.1, Option.bind_some, h4, Option.bind_some]
theorem ht_dv {k : Nat} (hk : k ≤ 55) : ho_dv (nI k) 7 = some (nI (k / 7)) := by
  unfold ho_dv
  rw [if_neg (by decide), show (7 : Int32) = nI 7 from rfl, pk_div (by omega) (by decide) (by decide)]
theorem ht_rm {k : Nat} (hk : k ≤ 55) : ho_rm (nI k) 7 = some (nI (k % 7)) := by
  unfold ho_rm
  rw [if_neg (by decide), show (7 : Int32) = nI 7 from rfl, pk_rem (by omega) (by decide) (by decide)]
theorem ht_y (hY : sp_Y K R y) {e k : Nat} (he : e < 120) (hk : k ≤ 55) (hs : I (y + 3) e = nI k) : f_X7_heightOf fu y (nI e) (K, I, R, N) = some (ht_N k (I (y + 4) e), (K, I, R, N)) :=
  ht_y0 hY (by rw [pu_li hY.f3.2 he (by decide), hs]) (pu_li hY.f4.2 he (by decide)) (ht_dv hk) (ht_rm hk) (fun z => ht_scale fu z (Nat.mod_lt k (by decide)))
theorem ht_out (hp : sp_P K R p) (v : Int32) : f_X4_isOutside fu p v (K, I, R, N) = some (if I p 4 ≤ v ∧ v ≤ I p 5 then 0 else 1, (K, I, R, N)) := by
  simp only [f_X4_isOutside, f_X4_isOutside_B16, f_X4_isOutside_B21, pu_gi hp.1, Option.bind_some, pu_vn0, pu_vn1, if_true]
  by_cases h1 : v < I p 4
  · rw [if_pos h1, if_neg (fun q => absurd h1 (Int32.not_lt.mpr q.1))]
  · rw [if_neg h1]
    by_cases h2 : v ≤ I p 5
    · rw [if_pos h2, if_pos ⟨Int32.not_lt.mp h1, h2⟩]
    · rw [if_neg h2, if_neg (fun q => h2 q.2)]
/-- how many below i -/
def rg_c (f : Nat → Bool) : Nat → Nat
  | 0 => 0
  | i + 1 => rg_c f i + (if f i then 1 else 0)
theorem sp_note.cases {s h : Int32} (hn : sp_note s h) (hs : s ≠ -1) : ∃ k, k ≤ 55 ∧ s = nI k := by
  rcases hn with q | q
  · exact absurd q.1 hs
  · exact in_rng (m := 55) rfl (by decide) ⟨q.1, q.2.1⟩
theorem sp_note.ne {s h : Int32} {k : Nat} (hk : k ≤ 55) (hs : s = nI k) : s ≠ -1 := by
  rw [hs]
  intro q
  have := congrArg Int32.toInt q
  rw [nI_toInt (by omega), show (-1 : Int32).toInt = -1 from rfl] at this
  omega
end OP8
