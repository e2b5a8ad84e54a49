/-! the reference judges: its loops -/
def ys (I0 J : Nat → Nat → Int32) (y : Nat) (T : Nat → Nat) (tm : Nat) (s : List Nat × Nat) : Prop := (∀ r, r ≠ y → r ≠ y + 14 → r ≠ y + 15 → J r = I0 r) ∧ (∀ f, f ≠ 19 → f ≠ 20 → J y f = I0 y f) ∧ J y 19 = nI s.1.length ∧ J y 20 = nI s.2 ∧ (∀ i, i < s.1.length → J (y + 14) i = nI (s.1.getD i 0)) ∧ ∀ i, i < tm → J (y + 15) i = nI (T i)
theorem yc.keep {K : Nat → Nat × Nat} {I J : Nat → Nat → Int32} {R : Nat → Nat → Option Nat} {y n c : Nat} {X : Nat → Nat → Option nt_T} {T : Nat → Nat} {ky : Int} {low high : Nat → Int32} {rc : Nat} {rf rt : Nat → Nat} (h : yc K I R y n c X T ky low high rc rf rt) (h1 : ∀ r, r ≠ y → r ≠ y + 14 → r ≠ y + 15 → J r = I r) (h2 : ∀ f, f ≠ 19 → f ≠ 20 → J y f = I y f) : yc K J R y n c X T ky low high rc rf rt := by
  unfold yc yr_at yr_e at *
  rw [h1 (y + 3) (by omega) (by omega) (by omega), h1 (y + 4) (by omega) (by omega) (by omega), h1 (y + 13) (by omega) (by omega) (by omega), h1 (y + 5) (by omega) (by omega) (by omega), h1 (y + 6) (by omega) (by omega) (by omega), h1 (y + 12) (by omega) (by omega) (by omega), h1 (y + 8) (by omega) (by omega) (by omega), h1 (y + 9) (by omega) (by omega) (by omega), h2 0 (by decide) (by decide), h2 8 (by decide) (by decide), h2 16 (by decide) (by decide), h2 10 (by decide) (by decide)]
  exact h
theorem rl_code_e (m k a b : Nat) (hk : k < 14) (hb : b < 5) : rl_code (14 * m + k) (5 * a + b) = 1000 * m + 50 * k + 7 * a + (if a = b then 0 else b + 1) := by
  unfold rl_code
  rw [show (14 * m + k) / 14 = m by omega, show (14 * m + k) % 14 = k by omega, show (5 * a + b) / 5 = a by omega, show (5 * a + b) % 5 = b by omega]
theorem jd_code (m k a : Nat) : ((1000 * nI m) + (50 * nI k)) + (7 * nI a) = nI (1000 * m + 50 * k + 7 * a) := by
  rw [show (1000 : Int32) = nI 1000 from rfl, show (50 : Int32) = nI 50 from rfl, show (7 : Int32) = nI 7 from rfl, pk_mul, pk_mul, pk_mul, nI_add, nI_add]
section YJ
variable {K : Nat → Nat × Nat} {I0 J : Nat → Nat → Int32} {R : Nat → Nat → Option Nat} {N fu y n c : Nat} {X : Nat → Nat → Option nt_T} {T : Nat → Nat} {ky : Int} {low high : Nat → Int32} {rc : Nat} {rf rt : Nat → Nat} {E : Bool} {tm : Nat} {st : List Nat × Nat} {P : Int32 × hp_S → Prop}
theorem yj_step (h : yc K I0 R y n c X T ky low high rc rf rt) (hys : ys I0 J y T tm st) (hlen : st.1.length < 12300) {m k a w : Nat} {B : Int32} (hB : ¬ nI n ≤ B) {va vb : Bool} (h1 : f_X7_isAbout fu y (nI k) (nI a) B (K, J, R, N) = some (bI va, (K, J, R, N))) (h2 : va = true → f_X7_isBroken fu y (nI k) (nI a) B (nI m) (K, J, R, N) = some (bI vb, (K, J, R, N))) {cd : Nat} (hcd : (va && vb) = true → (nI (1000 * m + 50 * k + 7 * a) + B) + 1 = nI cd) {kk : Int32 → Int32 → Int32 → Int32 → hp_S → Option (Int32 × hp_S)} (hn : ∀ J', ys I0 J' y T tm (ju E st (if va && vb then [cd] else [])) → pu_ok (f_X7_judge_L80 fu y kk w (nI m) (nI k) (bI E) (nI a) (B + 1) (K, J', R, N)) P) : pu_ok (f_X7_judge_L80 fu y kk (w + 1) (nI m) (nI k) (bI E) (nI a) B (K, J, R, N)) P := by
  obtain ⟨s1, s2, s3, s4, s5, s6⟩ := hys
  have hY := h.1
  have h0 : J y 0 = nI n := by rw [s2 0 (by decide) (by decide)]; exact h.2.2.1
  simp only [f_X7_judge_L80, f_X7_judge_B180, pu_gi hY.k, h0, Option.bind_some, pu_is hY.k, h1, bI_ite, ho_id]
  rw [if_neg hB]
  have hno : (va && vb) = false → pu_ok (f_X7_judge_L80 fu y kk w (nI m) (nI k) (bI E) (nI a) (B + 1) (K, J, R, N)) P := by
    intro hv
    have := hn J
    rw [hv, if_neg (by decide), ju_nil] at this
    exact this ⟨s1, s2, s3, s4, s5, s6⟩
  cases hva : va with
  | false =>
    rw [if_neg (by decide)]
    exact hno (by rw [hva]; rfl)
  | true =>
    rw [if_pos rfl, h2 hva, Option.bind_some]
    simp only [bI_ite]
    cases hvb : vb with
    | false =>
      rw [if_neg (by decide)]
      exact hno (by rw [hva, hvb]; rfl)
    | true =>
      rw [if_pos rfl]
      have hv : (va && vb) = true := by rw [hva, hvb]; rfl
      have hcd := hcd hv
      rw [hv, if_pos rfl] at hn
      have hgo : ∀ u : Int32, pu_ok (f_X7_judge_B128 fu y (f_X7_judge_L80 fu y kk w) kk (nI m) (nI k) (bI E) (nI a) B (if E = true then 1 else 0) (nI st.2) y (K, J, R, N)) P := by
        intro _
        simp only [f_X7_judge_B128, f_X7_judge_B176, f_X7_judge_B180, pu_pi hY.k, Option.bind_some, pu_gr hY.k hY.f21.1, pu_gi hY.k, jd_code, hcd, ho_id, bI_ite, pu_set_off _ _ _ _ (show 19 ≠ 20 by decide), s3]
        rw [pu_si hY.f21.2 hlen (by decide)]
        simp only [Option.bind_some, pu_gi hY.k, pu_set_row _ _ _ _ (show y ≠ y + 14 by omega), pu_set_off _ _ _ _ (show 19 ≠ 20 by decide), s3, pu_pi hY.k]
        cases E with
        | true =>
          simp only [if_true, Int32.add_zero]
          refine hn _ ⟨fun r q1 q2 q3 => by rw [pu_set_row _ _ _ _ q1, pu_set_row _ _ _ _ q2, pu_set_row _ _ _ _ q1]; exact s1 r q1 q2 q3, fun f q1 q2 => by rw [pu_set_off _ _ _ _ q1, pu_set_row _ _ _ _ (by omega), pu_set_off _ _ _ _ q2]; exact s2 f q1 q2, by rw [pu_set_at]; rfl, ?_, fun i hi => ?_, fun i hi => ?_⟩
          · rw [pu_set_off _ _ _ _ (by decide), pu_set_row _ _ _ _ (by omega), pu_set_at, nI_1]
            rfl
          · have hi' : i < st.1.length := hi
            rw [pu_set_row _ _ _ _ (by omega), pu_set_off _ _ _ _ (by omega), pu_set_row _ _ _ _ (by omega)]
            exact s5 i hi'
          · rw [pu_set_row _ _ _ _ (by omega), pu_set_row _ _ _ _ (by omega), pu_set_row _ _ _ _ (by omega)]
            exact s6 i hi
        | false =>
          simp only [Bool.false_eq_true, if_false, Int32.add_zero, nI_1]
          refine hn _ ⟨fun r q1 q2 q3 => by rw [pu_set_row _ _ _ _ q1, pu_set_row _ _ _ _ q2, pu_set_row _ _ _ _ q1]; exact s1 r q1 q2 q3, fun f q1 q2 => by rw [pu_set_off _ _ _ _ q1, pu_set_row _ _ _ _ (by omega), pu_set_off _ _ _ _ q2]; exact s2 f q1 q2, by rw [pu_set_at]; simp [ju], ?_, fun i hi => ?_, fun i hi => ?_⟩
          · rw [pu_set_off _ _ _ _ (by decide), pu_set_row _ _ _ _ (by omega), pu_set_at]
            rfl
          · have hi' : i < st.1.length + 1 := by simpa [ju] using hi
            rw [pu_set_row _ _ _ _ (by omega)]
            show _ = nI ((st.1 ++ [cd]).getD i 0)
            rcases Nat.lt_or_ge i st.1.length with q | q
            · rw [pu_set_off _ _ _ _ (by omega), pu_set_row _ _ _ _ (by omega), s5 i q]
              congr 1
              simp [List.getD, List.getElem?_append_left q]
            · have : i = st.1.length := by omega
              subst this
              rw [pu_set_at]
              simp [List.getD]
          · rw [pu_set_row _ _ _ _ (by omega), pu_set_row _ _ _ _ (by omega), pu_set_row _ _ _ _ (by omega)]
            exact s6 i hi
      have hgo := hgo 0
      simp only [pu_gi hY.k, Option.bind_some, s4]
      cases E with
      | true =>
        rw [if_pos rfl]
        exact hgo
      | false =>
        rw [if_neg (by decide)]
        exact hgo
end YJ
