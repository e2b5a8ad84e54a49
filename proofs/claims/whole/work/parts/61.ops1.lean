/-! THE CALLS, one after the other: both answer alike, and the relation holds behind them -/
theorem in_x (fu : Nat) (v a b : Int32) (z : hp_S) : f_X6_within fu v a b z = some (if a ≤ v ∧ v ≤ b then 1 else 0, z) := by
  unfold f_X6_within f_X6_within_B14 f_X6_within_B15
  by_cases h1 : v < a
  · rw [if_pos h1, if_pos pu_vn0, if_neg (fun q => absurd h1 (Int32.not_lt.mpr q.1))]
  · rw [if_neg h1]
    by_cases h2 : b < v
    · rw [if_pos h2, if_pos pu_vn0, if_neg (fun q => absurd h2 (Int32.not_lt.mpr q.2))]
    · rw [if_neg h2, if_pos pu_vn1, if_pos ⟨Int32.not_lt.mp h1, Int32.not_lt.mp h2⟩]
theorem in_y (fu : Nat) (v a b : Int32) (z : hp_S) : f_X7_isIn fu v a b z = some (if a ≤ v ∧ v ≤ b then 1 else 0, z) := by
  unfold f_X7_isIn f_X7_isIn_B14 f_X7_isIn_B15
  by_cases h1 : v < a
  · rw [if_pos h1, if_pos pu_vn0, if_neg (fun q => absurd h1 (Int32.not_lt.mpr q.1))]
  · rw [if_neg h1]
    by_cases h2 : b < v
    · rw [if_pos h2, if_pos pu_vn0, if_neg (fun q => absurd h2 (Int32.not_lt.mpr q.2))]
    · rw [if_neg h2, if_pos pu_vn1, if_pos ⟨Int32.not_lt.mp h1, Int32.not_lt.mp h2⟩]
theorem in_vn {p : Prop} [Decidable p] : vp_nar .boolean (if p then (1 : Int32) else 0) = (if p then 1 else 0) := by split <;> rfl
theorem in_0 {p : Prop} [Decidable p] : ((if p then (1 : Int32) else 0) = 0) ↔ ¬ p := by
  split
  · exact ⟨fun q => absurd q (by decide), fun q => absurd ‹p› q⟩
  · exact ⟨fun _ => ‹¬p›, fun _ => rfl⟩
theorem in_ite {α : Type} {p : Prop} [Decidable p] {A B : α} : (if (if p then (1 : Int32) else 0) = 0 then A else B) = if p then B else A := by
  by_cases h : p
  · simp [h]
  · simp [h]
theorem in_time (fu : Nat) (v : Int32) (z : hp_S) : f_X6_isTime fu v z = some (if 0 ≤ v ∧ v ≤ 999 then 1 else 0, z) := by
  simp only [f_X6_isTime, in_x, Option.bind_some, in_vn, if_true]
theorem in_kind (fu : Nat) (v : Int32) (z : hp_S) : f_X6_isKind fu v z = some (if 0 ≤ v ∧ v ≤ 13 then 1 else 0, z) := by
  simp only [f_X6_isKind, in_x, Option.bind_some, in_vn, if_true]
theorem in_rng {v : Int32} {m : Nat} {M : Int32} (hM : M = nI m) (hm : m < 2 ^ 31) (h : 0 ≤ v ∧ v ≤ M) : ∃ k, k ≤ m ∧ v = nI k := by
  subst hM
  exact nI_of2 (nI_toInt hm) (Int32.not_lt.mpr h.1) h.2
theorem in_rng2 {k m : Nat} {M : Int32} (hM : M = nI m) (hm : m < 2 ^ 31) (h : k ≤ m) : 0 ≤ nI k ∧ nI k ≤ M := by
  subst hM
  exact ⟨nI_pos' (by omega), nI_le h hm⟩
section OP
variable {K : Nat → Nat × Nat} {I : Nat → Nat → Int32} {R : Nat → Nat → Option Nat} {N fu x y n : Nat} {d : rl_D} {rb ky : Int32} {g rc : Nat} {rf rt : Nat → Nat} {xc : Nat} {xk xt : Nat → Nat}
theorem in_xv (h : sp_X K R x n) (v : Int32) : f_X6_isVoice fu x v (K, I, R, N) = some (if 0 ≤ v ∧ v ≤ nI (n - 1) then 1 else 0, (K, I, R, N)) := by
  have h2 := h.n2
  obtain ⟨m, rfl⟩ : ∃ m, n = m + 1 := ⟨n - 1, by omega⟩
  simp only [f_X6_isVoice, pu_gr h.k h.a.1, pu_ln h.a.2.1, Option.bind_some, nI_pred, in_x, in_vn, if_true, Nat.add_sub_cancel]
theorem in_yv (h : sp_Y K R y) (h0 : I y 0 = nI n) (h2 : 2 ≤ n) (v : Int32) : f_X7_isVoice fu y v (K, I, R, N) = some (if 0 ≤ v ∧ v ≤ nI (n - 1) then 1 else 0, (K, I, R, N)) := by
  obtain ⟨m, rfl⟩ : ∃ m, n = m + 1 := ⟨n - 1, by omega⟩
  simp only [f_X7_isVoice, pu_gi h.k, h0, Option.bind_some, nI_pred, in_y, in_vn, if_true, Nat.add_sub_cancel]
/-- key -/
theorem op_key (h : rl_W K I R x y n d rb ky g rc rf rt xc xk xt) (v : Int32) : pu_ok (f_X6_key fu x v (K, I, R, N)) (fun r => pu_ok (f_X7_key fu y v r.2) (fun q => r.1 = q.1 ∧ rl_V x y q.2)) := by
  obtain ⟨a1, a2, a3, a4, a5, a6, a7, a8, a9, a10, a11⟩ := id h
  have ht : sp_t x n = x + 2 + 4 * n := rfl
  simp only [f_X6_key, f_X7_key, in_x, in_y, Option.bind_some, in_ite]
  by_cases hv : -7 ≤ v ∧ v ≤ 7
  · simp only [if_pos hv, pu_gi a1.k, pu_pi a1.k, Option.bind_some]
    refine pu_some ?_
    simp only [pu_gi a2.k, pu_pi a2.k, Option.bind_some]
    refine pu_some ⟨?_, ?_⟩
    · show I x 7 = hp_set I x 7 v y 8
      rw [pu_set_row _ _ _ _ (by omega), a7.2.1, a7.2.2.2.2.1]
    · have kx : ∀ b, b ≠ x → b ≠ y → hp_set (hp_set I x 7 v) y 8 v b = I b := fun b q1 q2 => by rw [pu_set_row _ _ _ _ q2, pu_set_row _ _ _ _ q1]
      have ky' : ∀ k, k ≠ 8 → hp_set (hp_set I x 7 v) y 8 v y k = I y k := fun k q => by rw [pu_set_off _ _ _ _ q, pu_set_row _ _ _ _ (by omega)]
      have kx' : ∀ k, k ≠ 7 → hp_set (hp_set I x 7 v) y 8 v x k = I x k := fun k q => by rw [pu_set_row _ _ _ _ (by omega), pu_set_off _ _ _ _ q]
      refine ⟨K, _, R, N, n, d, rb, v, g, rc, rf, rt, xc, xk, xt, rfl, a1, a2, a3, a4, a5.keep (fun b q1 q2 => kx b (by omega) (by omega)), a6.keep (ky' 0 (by decide)) (fun b q1 q2 => kx b (by omega) (by omega)), ?_, ⟨a8.1.keep (kx _ (by omega) (by omega)) (kx _ (by omega) (by omega)) (kx _ (by omega) (by omega)) (ky' _ (by decide)) (kx _ (by omega) (by omega)) (kx _ (by omega) (by omega)), a8.2⟩, ⟨a9.1.keep (kx _ (by omega) (by omega)) (kx _ (by omega) (by omega)) (kx _ (by omega) (by omega)) (ky' _ (by decide)) (kx _ (by omega) (by omega)) (kx _ (by omega) (by omega)), a9.2⟩, a10.keep (by rw [kx _ (by omega) (by omega)]) (kx _ (by omega) (by omega)), a11.keep (kx _ (by omega) (by omega)) (kx _ (by omega) (by omega)) (kx _ (by omega) (by omega)) (kx _ (by omega) (by omega)) (ky' _ (by decide)) (ky' _ (by decide)) (kx _ (by omega) (by omega)) (kx _ (by omega) (by omega))⟩
      obtain ⟨b1, b2, b3, b4, b5, b6, b7⟩ := a7
      exact ⟨by rw [kx' _ (by decide)]; exact b1, by rw [pu_set_row _ _ _ _ (by omega), pu_set_at], by rw [kx' _ (by decide)]; exact b3, fun k hk => by rw [kx _ (by omega) (by omega)]; exact b4 k hk, by rw [pu_set_at], by rw [ky' _ (by decide)]; exact b6, b7.1, hv.1, hv.2⟩
  · simp only [if_neg hv]
    exact pu_some (pu_some ⟨rfl, K, I, R, N, n, d, rb, ky, g, rc, rf, rt, xc, xk, xt, rfl, h⟩)
/-- moments -/
theorem rl_YE (h : rl_Y1 I y n d) : sp_YE I y n d.1 d.2.1 := ⟨h.1, fun v hv => ⟨(h.2 v hv).1, fun i hi => ((h.2 v hv).2.2.2 i hi).1⟩⟩
/-- two rising rows of the same times are one -/
theorem sp_M.uniq {M : Nat → Prop} {c c' : Nat} {T T' : Nat → Nat} (h : sp_M M c T) (h' : sp_M M c' T') : c = c' ∧ ∀ j, j < c → T j = T' j := by
  have key : ∀ (c c' : Nat) (T T' : Nat → Nat), sp_M M c T → sp_M M c' T' → ∀ j, j < c → j < c' ∧ T j = T' j := by
    intro c c' T T' h h' j
    induction j using Nat.strongRecOn with
    | ind j ih =>
      intro hj
      obtain ⟨i, hi, e⟩ := (h'.2 (T j)).mp ((h.2 (T j)).mpr ⟨j, hj, rfl⟩)
      have a1 : j ≤ i := by
        rcases Nat.lt_or_ge i j with q | q
        · have b1 := ih i q (by omega)
          have b2 := h.1 i j q hj
          omega
        · exact q
      have a2 : i ≤ j := by
        rcases Nat.lt_or_ge j i with q | q
        · obtain ⟨k, hk, e2⟩ := (h.2 (T' j)).mp ((h'.2 (T' j)).mpr ⟨j, by omega, rfl⟩)
          have b1 := h'.1 j i q hi
          have b2 : k < j := by
            rcases Nat.lt_or_ge k j with q' | q'
            · exact q'
            · rcases Nat.lt_or_ge j k with q'' | q''
              · have := h.1 j k q'' hk
                omega
              · have : k = j := by omega
                rw [this] at e2
                omega
          have b3 := (ih k b2 hk).2
          have b4 := h'.1 k j b2 (by omega)
          omega
        · exact q
      have : i = j := by omega
      subst this
      exact ⟨hi, e.symm⟩
  have e1 : c ≤ c' := by
    rcases Nat.eq_zero_or_pos c with q | q
    · omega
    · have := (key c c' T T' h h' (c - 1) (by omega)).1
      omega
  have e2 : c' ≤ c := by
    rcases Nat.eq_zero_or_pos c' with q | q
    · omega
    · have := (key c' c T' T h' h (c' - 1) (by omega)).1
      omega
  exact ⟨by omega, fun j hj => (key c c' T T' h h' j hj).2⟩
theorem op_moments (h : rl_W K I R x y n d rb ky g rc rf rt xc xk xt) (hfu : 1100 ≤ fu) : pu_ok (f_X6_moments fu x (K, I, R, N)) (fun r => pu_ok (f_X7_moments fu y r.2) (fun q => r.1 = q.1 ∧ rl_V x y q.2)) := by
  obtain ⟨a1, a2, a3, a4, a5, a6, a7, a8, a9, a10, a11⟩ := id h
  simp only [f_X6_moments, pu_gr a1.k a1.t.1, pu_gi a1.t.2.1, Option.bind_some]
  refine pu_some ?_
  simp only [f_X7_moments, pu_is a2.k, Option.bind_some]
  refine pu_bind (pu_mono (lr_learn a2 (rl_YE a6) a4.1 a1.n5 a7.2.2.2.2.2.1 a7.2.2.2.2.2.2.1 hfu) ?_)
  rintro _ ⟨J, c, T, rfl, j1, j2, j3, j4, j5, j6, j7⟩
  obtain ⟨c', T', i1, i2, i3, i4⟩ := a10
  simp only [pu_gi a2.k, Option.bind_some]
  refine pu_some ⟨?_, K, J, R, N, n, d, rb, ky, g, rc, rf, rt, xc, xk, xt, rfl, h.scratch j1 j2⟩
  show I (sp_t x n) 1 = J y 16
  rw [i1, j3, (i4.uniq j6).1]
end OP
