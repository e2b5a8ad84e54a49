/-! the class judges: the whole -/
theorem jf_none {E : Nat → Bool} {p : Nat → Nat → Bool} (h : ∀ c, E c = false) : ∀ C, (jf E p C).2 = 0
  | 0 => rfl
  | C + 1 => by
    rw [jf, h C]
    simp only [ju, Bool.false_eq_true, if_false]
    exact jf_none h C
theorem jv.re {Iw I : Nat → Nat → Int32} {j jm : Nat} {p : Nat → Nat → Bool} {E E' : Nat → Bool} (h : jv Iw j jm p E I) (he : ∀ c, c < jm * 14 → E c = E' c) : jv Iw j jm p E' I := by
  obtain ⟨h1, h2, h3, h4⟩ := h
  refine ⟨h1, h2, ?_, fun c hc b => ?_⟩
  · rw [h3, jf_congr (p := p) (p' := p) (jm * 14) he (fun _ _ _ _ => rfl)]
  · rw [← he c hc]
    exact h4 c hc b
section JZ
variable {K : Nat → Nat × Nat} {I I' I0 : Nat → Nat → Int32} {R R0 : Nat → Nat → Option Nat} {N fu x n jm : Nat} {rb : Int32} {ky : Int} {T : Nat → Nat} {d : rl_D} {rc : Nat} {rf rt : Nat → Nat} {xc : Nat} {xk xt : Nat → Nat} {P : Int32 × hp_S → Prop}
def Sr (n : Nat) (rb : Int32) (ky : Int) (d : rl_D) (T : Nat → Nat) (jm : Nat) (rf rt : Nat → Nat) (i : Nat) : Nat → Nat → Prop := fun c b => Sw n rb ky d T jm c b ∨ ∃ l, l < i ∧ (fi_n T (rf l) jm 0 < jm ∧ fi_n T (rf l) jm 0 < la_n T (rt l) jm ∧ c / 14 = fi_n T (rf l) jm 0 ∧ (b / 5 < n ∧ b % 5 < n) ∧ bt rb (c % 14) = true ∧ nt_pr n ky (c % 14) (b / 5) (b % 5) (nt_at d (T (la_n T (rt l) jm - 1))) (nt_at d (T (fi_n T (rf l) jm 0))) = true)
theorem Sr_jb {c b : Nat} (hc : c < jm * 14) : Sr n rb ky d T jm rf rt rc c b ↔ jb n (bt rb) (jd_br n ky d.2.2.2.2.1 d.2.2.2.2.2 (fun m v => nt_at d (T m) v) T jm rc rf rt) c b = true := by
  have hm : c / 14 < jm := by omega
  unfold Sr Sw jb jd_br
  simp only [Bool.and_eq_true, decide_eq_true_eq, Bool.or_eq_true, jd_any_iff, jd_rp]
  constructor
  · rintro (⟨-, q1, q2, q3⟩ | ⟨l, hl, q1, q2, q3, q4, q5, q6⟩)
    · exact ⟨q2, q1, q3.elim Or.inl (fun w => Or.inr (Or.inl w))⟩
    · refine ⟨q5, q4, Or.inr (Or.inr ⟨l, hl, ⟨q3.symm, q2⟩, ?_⟩)⟩
      rw [q3]
      exact q6
  · rintro ⟨q1, q2, q3⟩
    rcases q3 with q3 | q3 | ⟨l, hl, ⟨q4, q5⟩, q6⟩
    · exact Or.inl ⟨hm, q2, q1, Or.inl q3⟩
    · exact Or.inl ⟨hm, q2, q1, Or.inr q3⟩
    · refine Or.inr ⟨l, hl, by omega, q5, q4.symm, q2, q1, ?_⟩
      rw [q4]
      exact q6
theorem xrep (hX : sp_X K R0 x n) (hX1 : rl_X1 I0 x n d) (hd : rl_ok n d) (ht1 : I0 (sp_t x n) 1 = nI jm) (hT : ∀ i, i < jm → I0 (sp_t x n + 1) i = nI (T i) ∧ T i < 1000) (hjm : jm ≤ 120) (hk1 : -7 ≤ ky) (hk2 : ky ≤ 7) (hfu : 130 ≤ fu) (hrc : rc ≤ 4) (hr2 : I0 (sp_t x n + 3) 2 = nI rc) (hrr : ∀ i, i < rc → I0 (sp_t x n + 4) i = nI (rf i) ∧ I0 (sp_t x n + 5) i = nI (rt i) ∧ rf i < 1000 ∧ rt i < 1000) {c1 c2 : Nat} {kk : hp_S → Option (Int32 × hp_S)} (hkk : ∀ I', jw K I0 R0 (sp_t x n + 9) n jm rb ky T (Sr n rb ky d T jm rf rt rc) c1 c2 I' R → pu_ok (kk (K, I', R, N)) P) : ∀ (s w i : Nat) (I : Nat → Nat → Int32), i + s = rc → s < w → jw K I0 R0 (sp_t x n + 9) n jm rb ky T (Sr n rb ky d T jm rf rt i) c1 c2 I R → pu_ok (f_X6_judge_L32 fu x kk w (nI i) (K, I, R, N)) P := by
  intro s
  induction s with
  | zero =>
    intro w i I h1 h2 h
    obtain ⟨w, rfl⟩ : ∃ w', w = w' + 1 := ⟨w - 1, by omega⟩
    have : i = rc := by omega
    subst this
    have hXR := h.sx hX
    have e1 : I (sp_t x n + 3) 2 = nI i := by rw [h.2.2.2.1 _ (by omega)]; exact hr2
    simp only [f_X6_judge_L32, pu_gr hXR.k hXR.r.1, pu_gi hXR.r.2.1, e1, Option.bind_some]
    rw [if_pos (Int32.le_refl _)]
    exact hkk I h
  | succ s ih =>
    intro w i I h1 h2 h
    obtain ⟨w, rfl⟩ : ∃ w', w = w' + 1 := ⟨w - 1, by omega⟩
    have hi : i < rc := by omega
    have hXR := h.sx hX
    have e1 : I (sp_t x n + 3) 2 = nI rc := by rw [h.2.2.2.1 _ (by omega)]; exact hr2
    obtain ⟨b1, b2, b3, b4⟩ := hrr i hi
    have e2 : I (sp_t x n + 3 + 1) i = nI (rf i) := by rw [h.2.2.2.1 _ (by omega)]; exact b1
    have e3 : I (sp_t x n + 3 + 2) i = nI (rt i) := by rw [h.2.2.2.1 _ (by omega)]; exact b2
    obtain ⟨r0, r1, r2, r3, r4, r5⟩ := hXR.r
    simp only [f_X6_judge_L32, pu_gr hXR.k r0, pu_gi r1, e1, Option.bind_some, pu_gr hXR.k hXR.j.1, pu_gr hXR.k hXR.a.1, pu_gr hXR.k hXR.t.1, pu_gr r1 r2, pu_gr r1 r3, pu_li r4 (show i < 4 by omega) (by decide), pu_li r5 (show i < 4 by omega) (by decide), e2, e3, pu_is hXR.j.2.1]
    rw [if_neg (nI_ge hi (by omega))]
    refine pu_bind (pu_mono (xgo hX hX1 hd ht1 hT hjm hk1 hk2 hfu b3 b4 h) ?_)
    rintro _ ⟨I1, rfl, hw⟩
    simp only [ho_id, Option.bind_some, nI_1]
    refine ih w (i + 1) I1 (by omega) (by omega) (hw.mark (fun _ _ => rfl) (fun c hc b => (hw.2.2.2.2.2.2.2.2 c hc b).trans ?_))
    unfold Sr
    constructor
    · rintro ((q | ⟨l, hl, q⟩) | q)
      · exact Or.inl q
      · exact Or.inr ⟨l, by omega, q⟩
      · exact Or.inr ⟨i, by omega, q⟩
    · rintro (q | ⟨l, hl, q⟩)
      · exact Or.inl (Or.inl q)
      · by_cases hli : l = i
        · subst hli
          exact Or.inr q
        · exact Or.inl (Or.inr ⟨l, by omega, q⟩)
theorem xexc (hX : sp_X K R x n) {Iw : Nat → Nat → Int32} {p : Nat → Nat → Bool} (h2 : Iw (sp_t x n + 9 + 1) 2 = nI jm) (hjm : jm ≤ 120) (h3 : ∀ i, i < jm → Iw (sp_t x n + 9 + 3) i = nI (T i) ∧ T i < 1000) (hp : ∀ c b, 25 ≤ b → p c b = false) (hxc : xc ≤ 20) (hx2 : Iw (sp_t x n + 6) 2 = nI xc) (hxx : ∀ i, i < xc → Iw (sp_t x n + 7) i = nI (xk i) ∧ Iw (sp_t x n + 8) i = nI (xt i) ∧ xk i < 14 ∧ xt i < 1000) (hfu : 130 ≤ fu) {kk : Nat → hp_S → Option (Int32 × hp_S)} (hkk : ∀ I', jv Iw (sp_t x n + 9) jm p (jE xk xt T xc) I' → pu_ok (kk (sp_t x n + 9 + 1) (K, I', R, N)) P) : ∀ (s w i : Nat) (I : Nat → Nat → Int32), i + s = xc → s < w → jv Iw (sp_t x n + 9) jm p (jE xk xt T i) I → pu_ok (f_X6_judge_L92 fu x kk w (sp_t x n + 9 + 1) (nI i) (K, I, R, N)) P := by
  intro s
  induction s with
  | zero =>
    intro w i I q1 q2 h
    obtain ⟨w, rfl⟩ : ∃ w', w = w' + 1 := ⟨w - 1, by omega⟩
    have : i = xc := by omega
    subst this
    have e1 : I (sp_t x n + 6) 2 = nI i := by rw [h.1 _ (by omega) (by omega)]; exact hx2
    simp only [f_X6_judge_L92, pu_gr hX.k hX.e.1, pu_gi hX.e.2.1, e1, Option.bind_some]
    rw [if_pos (Int32.le_refl _)]
    exact hkk I h
  | succ s ih =>
    intro w i I q1 q2 h
    obtain ⟨w, rfl⟩ : ∃ w', w = w' + 1 := ⟨w - 1, by omega⟩
    have hi : i < xc := by omega
    obtain ⟨b1, b2, b3, b4⟩ := hxx i hi
    have e1 : I (sp_t x n + 6) 2 = nI xc := by rw [h.1 _ (by omega) (by omega)]; exact hx2
    have e2 : I (sp_t x n + 6 + 1) i = nI (xk i) := by rw [h.1 _ (by omega) (by omega)]; exact b1
    have e3 : I (sp_t x n + 6 + 2) i = nI (xt i) := by rw [h.1 _ (by omega) (by omega)]; exact b2
    obtain ⟨r0, r1, r2, r3, r4, r5⟩ := hX.e
    have hF : sp_F K R (sp_t x n + 9 + 1) := hX.j.2.2.2.1
    simp only [f_X6_judge_L92, pu_gr hX.k r0, pu_gi r1, e1, Option.bind_some, pu_gr r1 r2, pu_gr r1 r3, pu_li r4 (show i < 20 by omega) (by decide), pu_li r5 (show i < 20 by omega) (by decide), e2, e3, pu_is hF.1]
    rw [if_neg (nI_ge hi (by omega))]
    unfold f_X2_leaveOut
    have h0 : jv Iw (sp_t x n + 9) jm p (jEm T (xk i) (xt i) 0 (jE xk xt T i)) I := h.re (fun c _ => by unfold jEm; rw [decide_eq_false (by omega), Bool.or_false])
    have hl := xl (N := N) (fu := fu) hF h2 hjm h3 hp b3 b4 jm fu 0 I (by omega) (by omega) h0
    rw [nI_0] at hl
    refine pu_bind (pu_mono hl ?_)
    rintro _ ⟨I1, rfl, hv⟩
    simp only [ho_id, Option.bind_some, nI_1]
    refine ih w (i + 1) I1 (by omega) (by omega) (hv.re (fun c hc => ?_))
    have hm : c / 14 < jm := by omega
    have key : (jE xk xt T (i + 1) c = true) ↔ (jEm T (xk i) (xt i) jm (jE xk xt T i) c = true) := by
      unfold jEm jE
      simp only [Bool.or_eq_true, decide_eq_true_eq, jd_any_iff]
      constructor
      · rintro ⟨l, hl, q⟩
        by_cases hli : l = i
        · subst hli
          exact Or.inr ⟨q.1.symm, hm, q.2.symm⟩
        · exact Or.inl ⟨l, by omega, q⟩
      · rintro (⟨l, hl, q⟩ | ⟨q3, q4, q5⟩)
        · exact ⟨l, by omega, q⟩
        · exact ⟨i, by omega, q3.symm, q5.symm⟩
    exact (Bool.eq_iff_iff.mpr key).symm
end JZ
