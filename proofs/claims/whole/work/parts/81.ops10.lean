/-! height, interval -/
theorem rl_W.chd {K : Nat → Nat × Nat} {I I' : Nat → Nat → Int32} {R : Nat → Nat → Option Nat} {x y n : Nat} {d : rl_D} {rb ky : Int32} {g rc : Nat} {rf rt : Nat → Nat} {xc : Nat} {xk xt : Nat → Nat} (h : rl_W K I R x y n d rb ky g rc rf rt xc xk xt) (h1 : ∀ b, b ≠ sp_t x n + 9 → (b < sp_t x n + 14 ∨ sp_t x n + 28 < b) → I' b = I b) : rl_W K I' R x y n d rb ky g rc rf rt xc xk xt := by
  obtain ⟨a1, a2, a3, a4, a5, a6, a7, a8, a9, a10, a11⟩ := h
  have ht : sp_t x n = x + 2 + 4 * n := rfl
  have hx : ∀ b, b < sp_t x n + 9 → I' b = I b := fun b hb => h1 b (by omega) (by omega)
  have hf : ∀ b, sp_t x n + 9 < b → b < sp_t x n + 14 → I' b = I b := fun b hb hb' => h1 b (by omega) (by omega)
  have hy : ∀ b, y ≤ b → I' b = I b := fun b hb => h1 b (by omega) (by omega)
  exact ⟨a1, a2, a3, a4, a5.keep (fun b _ q => hx b (by omega)), a6.keep (by rw [hy y (Nat.le_refl _)]) (fun b q1 q2 => hy b (by omega)), a7.keep (hx _ (by omega)) (hy _ (by omega)) (by rw [hy y (Nat.le_refl _)]) (by rw [hy y (Nat.le_refl _)]), ⟨a8.1.keep (hx _ (by omega)) (hx _ (by omega)) (hx _ (by omega)) (by rw [hy y (Nat.le_refl _)]) (hy _ (by omega)) (hy _ (by omega)), a8.2⟩, ⟨a9.1.keep (hx _ (by omega)) (hx _ (by omega)) (hx _ (by omega)) (by rw [hy y (Nat.le_refl _)]) (hy _ (by omega)) (hy _ (by omega)), a9.2⟩, a10.keep (by rw [hx _ (by omega)]) (hx _ (by omega)), a11.keep (hf _ (by omega) (by omega)) (hf _ (by omega) (by omega)) (hf _ (by omega) (by omega)) (hf _ (by omega) (by omega)) (by rw [hy y (Nat.le_refl _)]) (by rw [hy y (Nat.le_refl _)]) (hy _ (by omega)) (hy _ (by omega))⟩
section CX
variable {K : Nat → Nat × Nat} {I : Nat → Nat → Int32} {R : Nat → Nat → Option Nat} {N fu c n : Nat} {X : Nat → Option nt_T}
theorem cx_s (hC : sp_C K R c) {v : Nat} (hv : v < 5) : ho_li 2 (c + 1) (nI v) (K, I, R, N) = some (I (c + 1) v) := pu_li hC.2.2.2.2.2.1 hv (by decide)
theorem cx_k (hC : sp_C K R c) {v : Nat} (hv : v < 5) : ho_li 1 (c + 2) (nI v) (K, I, R, N) = some (I (c + 2) v) := pu_li hC.2.2.2.2.2.2.1 hv (by decide)
theorem cx_x (hC : sp_C K R c) {v : Nat} (hv : v < 5) : ho_li 1 (c + 3) (nI v) (K, I, R, N) = some (I (c + 3) v) := pu_li hC.2.2.2.2.2.2.2.1 hv (by decide)
theorem cx_h (hC : sp_C K R c) {v : Nat} (hv : v < 5) : ho_li 1 (c + 4) (nI v) (K, I, R, N) = some (I (c + 4) v) := pu_li hC.2.2.2.2.2.2.2.2 hv (by decide)
theorem cx_so (hX : ch_at I c n X) {v : Nat} (hv : v < n) : I (c + 1) v = bI (X v).isSome := by
  obtain ⟨h1, h2⟩ := hX v hv
  cases hq : X v with
  | none => rw [h1 hq]; rfl
  | some q => rw [(h2 q hq).1]; rfl
theorem cx_st (hC : sp_C K R c) (hX : ch_at I c n X) (h5 : n ≤ 5) {a b : Nat} {q r : nt_T} (ha : a < n) (hb : b < n) (hq : X a = some q) (hr : X b = some r) : f_X0_stepsUp fu c (nI a) (nI b) (K, I, R, N) = some (iI ((r.1 : Int) - q.1), (K, I, R, N)) := by
  obtain ⟨q1, q2, q3, q4⟩ := (hX a ha).2 q hq
  obtain ⟨r1, r2, r3, r4⟩ := (hX b hb).2 r hr
  simp only [f_X0_stepsUp, pu_gr hC.1 hC.2.2.1, Option.bind_some, cx_k hC (show a < 5 by omega), cx_k hC (show b < 5 by omega), q2, r2]
  rw [iI_nat, iI_nat, iI_sub]
theorem cx_up (hC : sp_C K R c) (hX : ch_at I c n X) (h5 : n ≤ 5) {a b : Nat} {q r : nt_T} (ha : a < n) (hb : b < n) (hq : X a = some q) (hr : X b = some r) : f_X0_heightUp fu c (nI a) (nI b) (K, I, R, N) = some (iI (nt_h r - nt_h q), (K, I, R, N)) := by
  obtain ⟨q1, q2, q3, q4⟩ := (hX a ha).2 q hq
  obtain ⟨r1, r2, r3, r4⟩ := (hX b hb).2 r hr
  simp only [f_X0_heightUp, pu_gr hC.1 hC.2.2.2.2.1, Option.bind_some, cx_h hC (show a < 5 by omega), cx_h hC (show b < 5 by omega), q4, r4, iI_sub]
theorem cx_q (hC : sp_C K R c) (hX : ch_at I c n X) (h5 : n ≤ 5) {a b : Nat} {q r : nt_T} (ha : a < n) (hb : b < n) (hq : X a = some q) (hr : X b = some r) (oq : nt_ok q) (or : nt_ok r) : f_X0_quality fu c (nI a) (nI b) (K, I, R, N) = some (iI (nt_q (X a) (X b)), (K, I, R, N)) := by
  have b1 := nt_hb oq
  have b2 := nt_hb or
  have b3 := oq.1
  have b4 := or.1
  rw [hq, hr]
  show _ = some (iI (nt_ql ((r.1 : Int) - q.1) (nt_h r - nt_h q)), _)
  simp only [f_X0_quality, pu_is hC.1, Option.bind_some, cx_st hC hX h5 ha hb hq hr, cx_up hC hX h5 ha hb hq hr, fm_7 _ _ (show -200 ≤ (r.1 : Int) - q.1 by omega) (show (r.1 : Int) - q.1 ≤ 200 by omega)]
  rw [fm_12 _ _ (by omega) (by omega), Option.bind_some]
  generalize nt_h r - nt_h q = h
  generalize (r.1 : Int) - q.1 = s
  have c1 : 0 ≤ s % 7 ∧ s % 7 < 7 := by omega
  have c2 : 0 ≤ h % 12 ∧ h % 12 < 12 := by omega
  unfold nt_ql f_X0_quality_B36 f_X0_quality_B50
  generalize s % 7 = s at c1 ⊢
  generalize h % 12 = h at c2 ⊢
  simp only [il_eq (show -1000 ≤ s by omega) (by omega), il_eq (show -1000 ≤ h by omega) (by omega), show (0 : Int32).toInt = 0 from rfl, show (4 : Int32).toInt = 4 from rfl, show (7 : Int32).toInt = 7 from rfl]
  have cc : s = 0 ∨ s = 4 ∨ (s ≠ 0 ∧ s ≠ 4) := by omega
  have ch : h = 0 ∨ h = 1 ∨ h = 2 ∨ h = 3 ∨ h = 4 ∨ h = 5 ∨ h = 6 ∨ h = 7 ∨ h = 8 ∨ h = 9 ∨ h = 10 ∨ h = 11 := by omega
  rcases cc with rfl | rfl | ⟨q1, q2⟩
  · rcases ch with rfl | rfl | rfl | rfl | rfl | rfl | rfl | rfl | rfl | rfl | rfl | rfl <;> rfl
  · rcases ch with rfl | rfl | rfl | rfl | rfl | rfl | rfl | rfl | rfl | rfl | rfl | rfl <;> rfl
  · simp only [q1, q2, if_false, false_and]
    rcases ch with rfl | rfl | rfl | rfl | rfl | rfl | rfl | rfl | rfl | rfl | rfl | rfl <;> rfl
end CX
section OP10
variable {K : Nat → Nat × Nat} {I : Nat → Nat → Int32} {R : Nat → Nat → Option Nat} {N fu x y n : Nat} {d : rl_D} {rb ky : Int32} {g rc : Nat} {rf rt : Nat → Nat} {xc : Nat} {xk xt : Nat → Nat}
theorem op_height (h : rl_W K I R x y n d rb ky g rc rf rt xc xk xt) (v i : Int32) (hfu : 1100 ≤ fu) : pu_ok (f_X6_height fu x v i (K, I, R, N)) (fun r => pu_ok (f_X7_height fu y v i r.2) (fun q => r.1 = q.1 ∧ rl_V x y q.2)) := by
  obtain ⟨a1, a2, a3, a4, a5, a6, a7, a8, a9, a10, a11⟩ := id h
  obtain ⟨c, T, i1, i2, i3, i4⟩ := a10
  have h2 := a1.n2
  have h5 := a1.n5
  have ht : sp_t x n = x + 2 + 4 * n := rfl
  have hy : ∀ (I1 : Nat → Nat → Int32) (r : Int32), rl_W K I1 R x y n d rb ky g rc rf rt xc xk xt → (∀ k j, k < n → j < c → v = nI k → i = nI j → r = match nt_at d (T j) k with | some q => iI (nt_h q) | none => -100) → (¬ ((0 ≤ v ∧ v ≤ nI (n - 1)) ∧ (0 ≤ i ∧ i ≤ nI c - 1)) → r = -2) → pu_ok (f_X7_height fu y v i (K, I1, R, N)) (fun q => r = q.1 ∧ rl_V x y q.2) := by
    intro I1 r h1 hr1 hr2
    obtain ⟨-, -, -, -, -, b6, b7, -⟩ := id h1
    simp only [f_X7_height, f_X7_height_B26, f_X7_height_B54, pu_is a2.k, Option.bind_some]
    refine pu_bind (pu_mono (lr_learn a2 (rl_YE b6) a4.1 a1.n5 b7.2.2.2.2.2.1 b7.2.2.2.2.2.2.1 hfu) ?_)
    rintro _ ⟨J, c', T', rfl, j1, j2, j3, j4, j5, j6, j7⟩
    obtain ⟨u1, u2⟩ := i4.uniq j6
    subst u1
    have hV : rl_V x y (K, J, R, N) := ⟨K, J, R, N, n, d, rb, ky, g, rc, rf, rt, xc, xk, xt, rfl, h1.scratch j1 j2⟩
    have hA := yr_learn a4 b6 (j1 (y + 3) (by omega) (by omega) (by omega)) (j1 (y + 4) (by omega) (by omega) (by omega)) h5 j4 j7
    simp only [pu_is a2.k, in_yv a2 (show J y 0 = nI n by rw [j2 0 (by decide)]; exact b6.1) h2, in_ite, pu_gi a2.k, Option.bind_some, j3, in_y]
    by_cases c1 : 0 ≤ v ∧ v ≤ nI (n - 1)
    · rw [if_pos c1]
      by_cases c2 : 0 ≤ i ∧ i ≤ nI c - 1
      · rw [if_pos c2]
        obtain ⟨k, k1, rfl⟩ := in_rng rfl (by omega) c1
        obtain ⟨j, q1, rfl⟩ := in_lt (by omega) c2
        have hr1 := hr1 k j (by omega) q1 rfl rfl
        simp only [yr_f a2 (show k < 5 by omega) (show j < 120 by omega), Option.bind_some, pu_is a2.k]
        rcases hA.2.2 k (by omega) j q1 with ⟨o, e⟩ | ⟨q, k', o, hq, hk', e, e3, e4⟩
        · rw [e, if_pos rfl]
          refine pu_some ⟨?_, hV⟩
          rw [hr1, u2 j q1]
          simp only at o
          rw [o]
        · rw [e, if_neg (nI_m1 hk'), yr_h a2 hk' hq e3 e4, Option.bind_some]
          refine pu_some ⟨?_, hV⟩
          rw [hr1, u2 j q1]
          simp only at o
          rw [o]
      · rw [if_neg c2]
        exact pu_some ⟨hr2 (fun q => c2 q.2), hV⟩
    · rw [if_neg c1]
      exact pu_some ⟨hr2 (fun q => c1 q.1), hV⟩
  have hbad : ¬ ((0 ≤ v ∧ v ≤ nI (n - 1)) ∧ (0 ≤ i ∧ i ≤ nI c - 1)) → pu_ok (some ((-2 : Int32), ((K, I, R, N) : hp_S))) (fun r => pu_ok (f_X7_height fu y v i r.2) (fun q => r.1 = q.1 ∧ rl_V x y q.2)) := fun hq => pu_some (hy I _ h (fun k j q1 q2 q3 q4 => absurd ⟨q3 ▸ in_rng2 rfl (by omega) (by omega), q4 ▸ ⟨nI_pos' (by omega), by
      obtain ⟨c', rfl⟩ : ∃ c', c = c' + 1 := ⟨c - 1, by omega⟩
      rw [nI_pred]
      exact nI_le (by omega) (by omega)⟩⟩ hq) (fun _ => rfl))
  simp only [f_X6_height, f_X6_height_B16, f_X6_height_B65, f_X6_isMoment, pu_is a1.k, in_xv a1, pu_gr a1.k a1.t.1, pu_gi a1.t.2.1, i1, in_x, in_vn, if_true, in_ite, Option.bind_some, pu_gr a1.k a1.c.1, pu_gr a1.k a1.a.1, pu_gr a1.t.2.1 a1.t.2.2.1, pu_is a1.c.2.1]
  by_cases c1 : 0 ≤ v ∧ v ≤ nI (n - 1)
  · rw [if_pos c1]
    by_cases c2 : 0 ≤ i ∧ i ≤ nI c - 1
    · rw [if_pos c2]
      obtain ⟨k, k1, rfl⟩ := in_rng rfl (by omega) c1
      obtain ⟨j, q1, rfl⟩ := in_lt (by omega) c2
      rw [pu_li a1.t.2.2.2.2.1 (show j < 120 by omega) (by decide), (i3 j q1).1, Option.bind_some]
      refine pu_bind (pu_mono (ld_load a1 a5 a4 a1.c.2 (by omega) (i3 j q1).2 (by omega)) ?_)
      rintro _ ⟨J, rfl, l1, l2⟩
      have hW : rl_W K J R x y n d rb ky g rc rf rt xc xk xt := h.chd (fun b q1 q2 => l1 b (by omega))
      simp only [pu_gr a1.k a1.c.1, pu_gr a1.c.2.1 a1.c.2.2.1, pu_gr a1.c.2.1 a1.c.2.2.2.2.2.1, Option.bind_some, cx_s a1.c.2 (show k < 5 by omega), cx_h a1.c.2 (show k < 5 by omega)]
      obtain ⟨z1, z2⟩ := l2 k (by omega)
      cases hq : nt_at d (T j) k with
      | none =>
        rw [z1 hq, if_pos rfl]
        refine pu_some (hy J _ hW (fun k' j' q3 q4 q5 q6 => ?_) (fun q => absurd ⟨c1, c2⟩ q))
        rw [← (nI_eq (by omega) (by omega)).mp q5, ← (nI_eq (by omega) (by omega)).mp q6, hq]
      | some q =>
        rw [(z2 q hq).1, if_neg (by decide : ¬ (1 : Int32) = 0)]
        refine pu_some (hy J _ hW (fun k' j' q3 q4 q5 q6 => ?_) (fun q => absurd ⟨c1, c2⟩ q))
        rw [← (nI_eq (by omega) (by omega)).mp q5, ← (nI_eq (by omega) (by omega)).mp q6, hq]
        exact (z2 q hq).2.2.2
    · rw [if_neg c2]
      exact hbad (fun q => c2 q.2)
  · rw [if_neg c1]
    exact hbad (fun q => c1 q.1)
theorem op_interval (h : rl_W K I R x y n d rb ky g rc rf rt xc xk xt) (v u i : Int32) (hfu : 1100 ≤ fu) : pu_ok (f_X6_interval fu x v u i (K, I, R, N)) (fun r => pu_ok (f_X7_interval fu y v u i r.2) (fun q => r.1 = q.1 ∧ rl_V x y q.2)) := by
  obtain ⟨a1, a2, a3, a4, a5, a6, a7, a8, a9, a10, a11⟩ := id h
  obtain ⟨c, T, i1, i2, i3, i4⟩ := a10
  have h2 := a1.n2
  have h5 := a1.n5
  have ht : sp_t x n = x + 2 + 4 * n := rfl
  have hy : ∀ (I1 : Nat → Nat → Int32) (r : Int32), rl_W K I1 R x y n d rb ky g rc rf rt xc xk xt → (∀ k l j, k < n → l < n → j < c → v = nI k → u = nI l → i = nI j → r = iI (nt_q (nt_at d (T j) k) (nt_at d (T j) l))) → (¬ ((0 ≤ v ∧ v ≤ nI (n - 1)) ∧ (0 ≤ u ∧ u ≤ nI (n - 1)) ∧ ¬ u ≤ v ∧ (0 ≤ i ∧ i ≤ nI c - 1)) → r = -2) → pu_ok (f_X7_interval fu y v u i (K, I1, R, N)) (fun q => r = q.1 ∧ rl_V x y q.2) := by
    intro I1 r h1 hr1 hr2
    obtain ⟨-, -, -, -, -, b6, b7, -⟩ := id h1
    simp only [f_X7_interval, f_X7_interval_B39, pu_is a2.k, Option.bind_some]
    refine pu_bind (pu_mono (lr_learn a2 (rl_YE b6) a4.1 a1.n5 b7.2.2.2.2.2.1 b7.2.2.2.2.2.2.1 hfu) ?_)
    rintro _ ⟨J, c', T', rfl, j1, j2, j3, j4, j5, j6, j7⟩
    obtain ⟨u1, u2⟩ := i4.uniq j6
    subst u1
    have hV : rl_V x y (K, J, R, N) := ⟨K, J, R, N, n, d, rb, ky, g, rc, rf, rt, xc, xk, xt, rfl, h1.scratch j1 j2⟩
    have hA := yr_learn a4 b6 (j1 (y + 3) (by omega) (by omega) (by omega)) (j1 (y + 4) (by omega) (by omega) (by omega)) h5 j4 j7
    simp only [pu_is a2.k, in_yv a2 (show J y 0 = nI n by rw [j2 0 (by decide)]; exact b6.1) h2, in_ite, pu_gi a2.k, Option.bind_some, j3, in_y]
    by_cases c1 : 0 ≤ v ∧ v ≤ nI (n - 1)
    · rw [if_pos c1]
      by_cases c0 : 0 ≤ u ∧ u ≤ nI (n - 1)
      · rw [if_pos c0]
        by_cases c3 : u ≤ v
        · rw [if_pos c3]
          exact pu_some ⟨hr2 (fun q => q.2.2.1 c3), hV⟩
        · rw [if_neg c3]
          by_cases c2 : 0 ≤ i ∧ i ≤ nI c - 1
          · rw [if_pos c2]
            obtain ⟨k, k1, rfl⟩ := in_rng rfl (by omega) c1
            obtain ⟨l, l1, rfl⟩ := in_rng rfl (by omega) c0
            obtain ⟨j, q1, rfl⟩ := in_lt (by omega) c2
            rw [yr_which a2 hA (show k < n by omega) (show l < n by omega) q1, Option.bind_some]
            refine pu_some ⟨?_, hV⟩
            rw [hr1 k l j (by omega) (by omega) q1 rfl rfl rfl, u2 j q1]
          · rw [if_neg c2]
            exact pu_some ⟨hr2 (fun q => c2 q.2.2.2), hV⟩
      · rw [if_neg c0]
        exact pu_some ⟨hr2 (fun q => c0 q.2.1), hV⟩
    · rw [if_neg c1]
      exact pu_some ⟨hr2 (fun q => c1 q.1), hV⟩
  have hbad : ¬ ((0 ≤ v ∧ v ≤ nI (n - 1)) ∧ (0 ≤ u ∧ u ≤ nI (n - 1)) ∧ ¬ u ≤ v ∧ (0 ≤ i ∧ i ≤ nI c - 1)) → pu_ok (some ((-2 : Int32), ((K, I, R, N) : hp_S))) (fun r => pu_ok (f_X7_interval fu y v u i r.2) (fun q => r.1 = q.1 ∧ rl_V x y q.2)) := by
    intro hq
    refine pu_some ?_
    simp only [f_X7_interval, f_X7_interval_B39, pu_is a2.k, Option.bind_some]
    refine pu_bind (pu_mono (lr_learn a2 (rl_YE a6) a4.1 a1.n5 a7.2.2.2.2.2.1 a7.2.2.2.2.2.2.1 hfu) ?_)
    rintro _ ⟨J, c', T', rfl, j1, j2, j3, j4, j5, j6, j7⟩
    obtain ⟨u1, u2⟩ := i4.uniq j6
    subst u1
    have hV : rl_V x y (K, J, R, N) := ⟨K, J, R, N, n, d, rb, ky, g, rc, rf, rt, xc, xk, xt, rfl, h.scratch j1 j2⟩
    simp only [pu_is a2.k, in_yv a2 (show J y 0 = nI n by rw [j2 0 (by decide)]; exact a6.1) h2, in_ite, pu_gi a2.k, Option.bind_some, j3, in_y]
    by_cases c1 : 0 ≤ v ∧ v ≤ nI (n - 1)
    · rw [if_pos c1]
      by_cases c0 : 0 ≤ u ∧ u ≤ nI (n - 1)
      · rw [if_pos c0]
        by_cases c3 : u ≤ v
        · rw [if_pos c3]
          exact pu_some ⟨rfl, hV⟩
        · rw [if_neg c3, if_neg (fun c2 => hq ⟨c1, c0, c3, c2⟩)]
          exact pu_some ⟨rfl, hV⟩
      · rw [if_neg c0]
        exact pu_some ⟨rfl, hV⟩
    · rw [if_neg c1]
      exact pu_some ⟨rfl, hV⟩
  simp only [f_X6_interval, f_X6_interval_B29, f_X6_interval_B88, f_X6_interval_B90, f_X6_isMoment, pu_is a1.k, in_xv a1, pu_gr a1.k a1.t.1, pu_gi a1.t.2.1, i1, in_x, in_vn, if_true, in_ite, Option.bind_some, pu_gr a1.k a1.c.1, pu_gr a1.k a1.a.1, pu_gr a1.t.2.1 a1.t.2.2.1, pu_is a1.c.2.1]
  by_cases c1 : 0 ≤ v ∧ v ≤ nI (n - 1)
  · rw [if_pos c1]
    by_cases c0 : 0 ≤ u ∧ u ≤ nI (n - 1)
    · rw [if_pos c0]
      by_cases c3 : u ≤ v
      · rw [if_pos c3]
        exact hbad (fun q => q.2.2.1 c3)
      · rw [if_neg c3]
        by_cases c2 : 0 ≤ i ∧ i ≤ nI c - 1
        · rw [if_pos c2]
          obtain ⟨k, k1, rfl⟩ := in_rng rfl (by omega) c1
          obtain ⟨l, l1, rfl⟩ := in_rng rfl (by omega) c0
          obtain ⟨j, q1, rfl⟩ := in_lt (by omega) c2
          rw [pu_li a1.t.2.2.2.2.1 (show j < 120 by omega) (by decide), (i3 j q1).1, Option.bind_some]
          refine pu_bind (pu_mono (ld_load a1 a5 a4 a1.c.2 (by omega) (i3 j q1).2 (by omega)) ?_)
          rintro _ ⟨J, rfl, w1, w2⟩
          have hW : rl_W K J R x y n d rb ky g rc rf rt xc xk xt := h.chd (fun b q1 q2 => w1 b (by omega))
          have hfin : ∀ r : Int32, r = iI (nt_q (nt_at d (T j) k) (nt_at d (T j) l)) → pu_ok (some (r, ((K, J, R, N) : hp_S))) (fun r => pu_ok (f_X7_interval fu y (nI k) (nI l) (nI j) r.2) (fun q => r.1 = q.1 ∧ rl_V x y q.2)) := by
            intro r hr
            refine pu_some (hy J _ hW (fun k' l' j' q3 q4 q5 q6 q7 q8 => ?_) (fun q => absurd ⟨c1, c0, c3, c2⟩ q))
            rw [← (nI_eq (by omega) (by omega)).mp q6, ← (nI_eq (by omega) (by omega)).mp q7, ← (nI_eq (by omega) (by omega)).mp q8]
            exact hr
          simp only [pu_gr a1.k a1.c.1, pu_is a1.c.2.1, pu_gr a1.c.2.1 a1.c.2.2.1, Option.bind_some, cx_s a1.c.2 (show k < 5 by omega), cx_s a1.c.2 (show l < 5 by omega)]
          obtain ⟨z1, z2⟩ := w2 k (by omega)
          obtain ⟨z3, z4⟩ := w2 l (by omega)
          cases hq : nt_at d (T j) k with
          | none =>
            rw [z1 hq, if_pos rfl]
            exact hfin _ (by rw [hq]; rfl)
          | some q =>
            rw [(z2 q hq).1, if_neg (by decide : ¬ (1 : Int32) = 0)]
            cases hr : nt_at d (T j) l with
            | none =>
              rw [z3 hr, if_pos rfl]
              exact hfin _ (by rw [hq, hr]; rfl)
            | some r =>
              rw [(z4 r hr).1, if_neg (by decide : ¬ (1 : Int32) = 0), cx_q a1.c.2 w2 h5 (show k < n by omega) (show l < n by omega) hq hr (nt_atok a4 (by omega) hq).1 (nt_atok a4 (by omega) hr).1, Option.bind_some]
              exact hfin _ rfl
        · rw [if_neg c2]
          exact hbad (fun q => c2 q.2.2.2)
    · rw [if_neg c0]
      exact hbad (fun q => c0 q.2.1)
  · rw [if_neg c1]
    exact hbad (fun q => c1 q.1)
end OP10
