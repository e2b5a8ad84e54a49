/-! the reference judges -/
theorem yr_learn {I J : Nat → Nat → Int32} {y n c : Nat} {d : rl_D} {T : Nat → Nat} (hd : rl_ok n d) (h1 : rl_Y1 I y n d) (h3 : J (y + 3) = I (y + 3)) (h4 : J (y + 4) = I (y + 4)) (hn : n ≤ 5) (hc : c ≤ 120) (hev : ∀ v, v < n → ∀ m, m < c → sp_ev (I (y + 3)) d.1 d.2.1 v (T m) (J (y + 13) (120 * v + m))) : yr_at J y n c (fun m v => nt_at d (T m) v) := by
  refine ⟨hn, hc, fun v hv m hm => ?_⟩
  obtain ⟨k, k1, k2, k3, k4⟩ := hev v hv m hm
  obtain ⟨o1, o2, o3⟩ := hd.1 v hv
  obtain ⟨f1, f2, f3, f4⟩ := h1.2 v hv
  have hk : k = nt_k d (T m) v := ev_uniq o3 k1 k2 k3
  rw [k4]
  unfold yr_e
  rw [h3, h4]
  by_cases h0 : k = 0
  · refine Or.inl ⟨?_, by rw [if_pos (Or.inl h0)]⟩
    show nt_at d (T m) v = none
    unfold nt_at
    rw [if_pos (Or.inl (by rw [← hk]; exact h0))]
  · have e1 := f4 (k - 1) (by omega)
    by_cases hs : d.2.2.1 v (k - 1) = -1
    · refine Or.inl ⟨?_, by rw [if_pos (Or.inr (by rw [e1.2.1]; exact hs))]⟩
      show nt_at d (T m) v = none
      unfold nt_at
      rw [if_pos (Or.inr (by rw [← hk]; exact hs))]
    · have hq : ∃ q, nt_at d (T m) v = some q := by
        unfold nt_at
        rw [← hk, if_neg (fun h => h.elim h0 hs)]
        exact ⟨_, rfl⟩
      obtain ⟨q, hq⟩ := hq
      obtain ⟨k5, k6, k7, k8, k9⟩ := nt_atok hd hv hq
      rw [← hk] at k8 k9
      refine Or.inr ⟨q, 24 * v + (k - 1), hq, k5, by omega, ?_, by rw [e1.2.1]; exact k8, by rw [e1.2.2]; exact k9⟩
      rw [if_neg (fun h => h.elim h0 (fun w => hs (by rw [← e1.2.1]; exact w)))]
section YJ3
variable {K : Nat → Nat × Nat} {I0 : Nat → Nat → Int32} {R : Nat → Nat → Option Nat} {N fu y n c : Nat} {X : Nat → Nat → Option nt_T} {T : Nat → Nat} {ky : Int} {low high : Nat → Int32} {rc : Nat} {rf rt : Nat → Nat} {tm : Nat} {P : Int32 × hp_S → Prop} {on : Nat → Bool} {xc : Nat} {xk xt : Nat → Nat}
/-- all faults of the reference -/
def yjf (n : Nat) (on : Nat → Bool) (ky : Int) (low high : Nat → Int32) (X : Nat → Nat → Option nt_T) (T : Nat → Nat) (c rc : Nat) (rf rt : Nat → Nat) (xc : Nat) (xk xt : Nat → Nat) : Nat → List Nat × Nat := jf (jE xk xt T xc) (jb n on (jd_br n ky low high X T c rc rf rt))
theorem jb_q {n : Nat} {on : Nat → Bool} {C x : Nat} (h : jb n on (jd_br n ky low high X T c rc rf rt) C x = true) : jcq n (C % 14) x = true := by
  unfold jb at h
  obtain ⟨-, h⟩ := Bool.and_eq_true_iff.mp h
  obtain ⟨h1, h2⟩ := Bool.and_eq_true_iff.mp h
  unfold jcq
  rw [h1, jd_br_ab (Nat.mod_lt _ (by decide)) h2]
  rfl
theorem yjf_len (h5 : n ≤ 5) {C : Nat} (hC : C ≤ 1680) : (yjf n on ky low high X T c rc rf rt xc xk xt C).1.length ≤ 12240 :=
  Nat.le_trans (jf_len h5 (fun _ _ h => jb_q h) C) (by rw [← jcs_all]; exact jcs_mono _ _ hC)
theorem yj_cell (h2 : 2 ≤ n) (h5 : n ≤ 5) {m k : Nat} (hk : k < 14) : jh n (nt_al k) (jb n on (jd_br n ky low high X T c rc rf rt) (14 * m + k)) (rl_code (14 * m + k)) n 0 = jc (jb n on (jd_br n ky low high X T c rc rf rt) (14 * m + k)) (14 * m + k) := by
  have hk14 : (14 * m + k) % 14 = k := by omega
  refine jh_jc h2 h5 (fun x hx hq => ?_) (fun hal x hx hq => ?_) (fun hal x hx hq => ?_)
  · cases hz : jb n on (jd_br n ky low high X T c rc rf rt) (14 * m + k) x
    · rfl
    · have := jb_q hz
      unfold jcq at this
      exact absurd (of_decide_eq_true (Bool.and_eq_true_iff.mp this).1) hq
  · cases hz : jb n on (jd_br n ky low high X T c rc rf rt) (14 * m + k) x
    · rfl
    · have := jb_q hz
      unfold jcq at this
      rw [hk14] at this
      exact absurd ((nt_ab_al h2 hk (Bool.and_eq_true_iff.mp this).2).1 hal) hq
  · cases hz : jb n on (jd_br n ky low high X T c rc rf rt) (14 * m + k) x
    · rfl
    · have := jb_q hz
      unfold jcq at this
      rw [hk14] at this
      exact absurd hq ((nt_ab_al h2 hk (Bool.and_eq_true_iff.mp this).2).2 hal)
theorem jc_no {n : Nat} {on : Nat → Bool} {br : Nat → Nat → Nat → Nat → Bool} {C : Nat} (h : on (C % 14) = false) : jc (jb n on br C) C = [] := by
  unfold jc
  have : (List.range 25).filter (jb n on br C) = [] := List.filter_eq_nil_iff.mpr (fun x _ => by unfold jb; rw [h]; simp)
  rw [this]
  rfl
theorem yj_k (h : yc K I0 R y n c X T ky low high rc rf rt) (hon7 : ∀ k, k < 14 → I0 (y + 7) k = bI (on k)) (hx0 : xc ≤ 20) (hx1 : I0 y 13 = nI xc) (hx2 : ∀ i, i < xc → I0 (y + 10) i = nI (xk i) ∧ I0 (y + 11) i = nI (xt i) ∧ xk i < 1000 ∧ xt i < 1000) (hfu : 1000 ≤ fu) {m : Nat} (hm : m < c) {kk : Int32 → hp_S → Option (Int32 × hp_S)} : ∀ (s w k : Nat) (J : Nat → Nat → Int32), k + s = 14 → s < w → ys I0 J y T tm (yjf n on ky low high X T c rc rf rt xc xk xt (14 * m + k)) →
    (∀ J', ys I0 J' y T tm (yjf n on ky low high X T c rc rf rt xc xk xt (14 * (m + 1))) → pu_ok (kk (nI m) (K, J', R, N)) P) → pu_ok (f_X7_judge_L38 fu y kk w (nI m) (nI k) (K, J, R, N)) P := by
  have h5 := h.2.1.1
  have h6 := h.2.1.2.1
  have h2 := h.2.2.2.1
  intro s
  induction s with
  | zero =>
    intro w k J h1 h3 hys hkk
    obtain ⟨w, rfl⟩ : ∃ w', w = w' + 1 := ⟨w - 1, by omega⟩
    have : k = 14 := by omega
    subst this
    simp only [f_X7_judge_L38]
    rw [if_pos (by decide : (14 : Int32) ≤ nI 14)]
    exact hkk J (by rw [show 14 * (m + 1) = 14 * m + 14 by omega]; exact hys)
  | succ s ih =>
    intro w k J h1 h3 hys hkk
    obtain ⟨w, rfl⟩ : ∃ w', w = w' + 1 := ⟨w - 1, by omega⟩
    have hk : k < 14 := by omega
    have hJ := h.keep hys.1 hys.2.1
    have hT := hJ.2.2.2.2.2.2.2.1 m hm
    obtain ⟨r, r1, r2⟩ := en_excepted (I := J) (N := N) (fu := fu) (a := k) (a' := T m) (xk := xk) (xt := xt) (c := xc) h.1 hx0 (by rw [hys.2.1 _ (by decide) (by decide)]; exact hx1) (fun i hi => by rw [hys.1 _ (by omega) (by omega) (by omega), hys.1 _ (by omega) (by omega) (by omega)]; exact hx2 i hi) (by omega) hT.2 hfu
    have hr : r = bI (jE xk xt T xc (14 * m + k)) := by
      have e1 : (14 * m + k) % 14 = k := by omega
      have e2 : (14 * m + k) / 14 = m := by omega
      rcases r2 with ⟨rfl, i, i1, i2⟩ | ⟨rfl, i2⟩
      · rw [show jE xk xt T xc (14 * m + k) = true from jd_any_iff.mpr ⟨i, i1, by rw [e1, e2]; exact decide_eq_true i2⟩]
        rfl
      · have : jE xk xt T xc (14 * m + k) = false := by
          cases hz : jE xk xt T xc (14 * m + k)
          · rfl
          · obtain ⟨i, i1, i3⟩ := jd_any_iff.mp hz
            rw [e1, e2] at i3
            exact absurd (of_decide_eq_true i3) (i2 i i1)
        rw [this]
        rfl
    have hlen := yjf_len (on := on) (ky := ky) (low := low) (high := high) (X := X) (T := T) (c := c) (rc := rc) (rf := rf) (rt := rt) (xc := xc) (xk := xk) (xt := xt) h5 (C := 14 * m + k) (by omega)
    simp only [f_X7_judge_L38, pu_gr h.1.k h.1.f17.1, Option.bind_some, pu_li h.1.f17.2 (show m < 120 by omega) (by decide), hT.1, pu_is h.1.k, r1, hr]
    have h14 : ¬ nI 14 ≤ nI k := nI_ge hk (by decide)
    rw [if_neg (show ¬ (14 : Int32) ≤ nI k from h14)]
    have nx : ∀ J', ys I0 J' y T tm (yjf n on ky low high X T c rc rf rt xc xk xt (14 * m + (k + 1))) → pu_ok (f_X7_judge_B192 fu y (f_X7_judge_L38 fu y kk w) kk (nI m) (nI k) (K, J', R, N)) P := by
      intro J' hys'
      simp only [f_X7_judge_B192, ho_id, Option.bind_some, nI_1]
      exact ih w (k + 1) J' (by omega) (by omega) hys' hkk
    have hstep : yjf n on ky low high X T c rc rf rt xc xk xt (14 * m + (k + 1)) = ju (jE xk xt T xc (14 * m + k)) (yjf n on ky low high X T c rc rf rt xc xk xt (14 * m + k)) (jc (jb n on (jd_br n ky low high X T c rc rf rt) (14 * m + k)) (14 * m + k)) := rfl
    cases hon : on k with
    | true =>
      have key := yj_a (P := P) (tm := tm) (N := N) h hon7 (show 130 ≤ fu by omega) hm hk hon (E := jE xk xt T xc (14 * m + k)) (kk := f_X7_judge_B192 fu y (f_X7_judge_L38 fu y kk w) kk) n fu 0 J _ (by omega) (by omega) hys (by omega) (fun J' hys' => nx J' (by
        rw [yj_cell h2 h5 hk] at hys'
        rw [hstep]
        exact hys'))
      rw [nI_0] at key
      exact key
    | false =>
      obtain ⟨w2, hw2⟩ : ∃ w', fu = w' + 1 := ⟨fu - 1, by omega⟩
      have hL : ∀ kk' : Int32 → Int32 → hp_S → Option (Int32 × hp_S), f_X7_judge_L59 fu y kk' fu (nI m) (nI k) (bI (jE xk xt T xc (14 * m + k))) 0 (K, J, R, N) = kk' (nI m) (nI k) (K, J, R, N) := by
        intro kk'
        rw [show f_X7_judge_L59 fu y kk' fu = f_X7_judge_L59 fu y kk' (w2 + 1) by rw [← hw2]]
        have h7 : J (y + 7) k = 0 := by rw [hys.1 _ (by omega) (by omega) (by omega), hon7 k hk, hon]; rfl
        simp only [f_X7_judge_L59, pu_gi h.1.k, hJ.2.2.1, Option.bind_some, pu_gr h.1.k h.1.f7.1, pu_li h.1.f7.2 hk (by decide), h7, if_true]
        split <;> rfl
      rw [hL]
      refine nx J ?_
      rw [hstep, jc_no (by rw [show (14 * m + k) % 14 = k by omega]; exact hon), ju_nil]
      exact hys
theorem yj_m (h : yc K I0 R y n c X T ky low high rc rf rt) (hon7 : ∀ k, k < 14 → I0 (y + 7) k = bI (on k)) (hx0 : xc ≤ 20) (hx1 : I0 y 13 = nI xc) (hx2 : ∀ i, i < xc → I0 (y + 10) i = nI (xk i) ∧ I0 (y + 11) i = nI (xt i) ∧ xk i < 1000 ∧ xt i < 1000) (hfu : 1000 ≤ fu) : ∀ (s w m : Nat) (J : Nat → Nat → Int32), m + s = c → s < w → ys I0 J y T m (yjf n on ky low high X T c rc rf rt xc xk xt (14 * m)) →
    pu_ok (f_X7_judge_L16 fu y (f_X7_judge_B204 fu y) w (nI m) (K, J, R, N)) (fun q => ∃ J', q = (nI (yjf n on ky low high X T c rc rf rt xc xk xt (14 * c)).1.length, (K, J', R, N)) ∧ ys I0 J' y T c (yjf n on ky low high X T c rc rf rt xc xk xt (14 * c))) := by
  have h6 := h.2.1.2.1
  intro s
  induction s with
  | zero =>
    intro w m J h1 h3 hys
    obtain ⟨w, rfl⟩ : ∃ w', w = w' + 1 := ⟨w - 1, by omega⟩
    have : m = c := by omega
    subst this
    have hJ := h.keep hys.1 hys.2.1
    simp only [f_X7_judge_L16, f_X7_judge_B204, pu_gi h.1.k, hJ.2.2.2.2.2.2.1, Option.bind_some]
    rw [if_pos (Int32.le_refl _)]
    exact pu_some ⟨J, by rw [hys.2.2.1], hys⟩
  | succ s ih =>
    intro w m J h1 h3 hys
    obtain ⟨w, rfl⟩ : ∃ w', w = w' + 1 := ⟨w - 1, by omega⟩
    have hm : m < c := by omega
    have hJ := h.keep hys.1 hys.2.1
    have hT := hJ.2.2.2.2.2.2.2.1 m hm
    simp only [f_X7_judge_L16, pu_gi h.1.k, hJ.2.2.2.2.2.2.1, Option.bind_some, pu_gr h.1.k h.1.f17.1, pu_gr h.1.k h.1.f22.1, pu_li h.1.f17.2 (show m < 120 by omega) (by decide), hT.1, pu_si h.1.f22.2 (show m < 120 by omega) (by decide)]
    rw [if_neg (nI_ge hm (by omega))]
    obtain ⟨s1, s2, s3, s4, s5, s6⟩ := hys
    have key := yj_k (N := N) (tm := m + 1) (P := fun q => ∃ J', q = (nI (yjf n on ky low high X T c rc rf rt xc xk xt (14 * c)).1.length, (K, J', R, N)) ∧ ys I0 J' y T c (yjf n on ky low high X T c rc rf rt xc xk xt (14 * c))) h hon7 hx0 hx1 hx2 hfu hm (kk := f_X7_judge_B198 fu y (f_X7_judge_L16 fu y (f_X7_judge_B204 fu y) w) (f_X7_judge_B204 fu y)) 14 fu 0 (hp_set J (y + 15) m (nI (T m))) (by omega) (by omega) ⟨fun r q1 q2 q3 => by rw [pu_set_row _ _ _ _ q3]; exact s1 r q1 q2 q3, fun f q1 q2 => by rw [pu_set_row _ _ _ _ (by omega)]; exact s2 f q1 q2, by rw [pu_set_row _ _ _ _ (by omega)]; exact s3, by rw [pu_set_row _ _ _ _ (by omega)]; exact s4, fun i hi => by rw [pu_set_row _ _ _ _ (by omega)]; exact s5 i hi, fun i hi => by
        rw [pu_set]
        simp only [if_true]
        by_cases q : i = m
        · rw [if_pos q, q]
        · rw [if_neg q]
          exact s6 i (by omega)⟩ (fun J' hys' => by
        simp only [f_X7_judge_B198, ho_id, Option.bind_some, nI_1]
        exact ih w (m + 1) J' (by omega) (by omega) hys')
    rw [nI_0] at key
    exact key
end YJ3
