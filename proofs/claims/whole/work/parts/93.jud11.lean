/-! judge -/
section JO
variable {K : Nat → Nat × Nat} {I : Nat → Nat → Int32} {R : Nat → Nat → Option Nat} {N fu x y n jm : Nat} {rb : Int32} {ky : Int} {T : Nat → Nat} {d : rl_D} {g rc : Nat} {rf rt : Nat → Nat} {xc : Nat} {xk xt : Nat → Nat}
theorem jb_hi {on : Nat → Bool} {br : Nat → Nat → Nat → Nat → Bool} (hn : n ≤ 5) (c b : Nat) (hb : 25 ≤ b) : jb n on br c b = false := by
  unfold jb
  rw [decide_eq_false (by omega)]
  simp
theorem xjudge (hX : sp_X K R x n) (hX1 : rl_X1 I x n d) (hd : rl_ok n d) (ht1 : I (sp_t x n) 1 = nI jm) (hT : ∀ i, i < jm → I (sp_t x n + 1) i = nI (T i) ∧ T i < 1000) (hjm : jm ≤ 120) (hk1 : -7 ≤ ky) (hk2 : ky ≤ 7) (h6 : I x 6 = rb) (h7 : I x 7 = iI ky) (hrc : rc ≤ 4) (hr2 : I (sp_t x n + 3) 2 = nI rc) (hrr : ∀ i, i < rc → I (sp_t x n + 4) i = nI (rf i) ∧ I (sp_t x n + 5) i = nI (rt i) ∧ rf i < 1000 ∧ rt i < 1000) (hxc : xc ≤ 20) (hx2 : I (sp_t x n + 6) 2 = nI xc) (hxx : ∀ i, i < xc → I (sp_t x n + 7) i = nI (xk i) ∧ I (sp_t x n + 8) i = nI (xt i) ∧ xk i < 14 ∧ xt i < 1000) (hfu : 1700 ≤ fu) {p : Nat → Nat → Bool} (hp : p = jb n (bt rb) (jd_br n ky d.2.2.2.2.1 d.2.2.2.2.2 (fun m v => nt_at d (T m) v) T jm rc rf rt)) {L : List Nat × Nat} (hL : L = jf (jE xk xt T xc) p (jm * 14)) : pu_ok (f_X6_judge fu x (K, I, R, N)) (fun r => ∃ I' R', r = (nI L.1.length, (K, I', R', N)) ∧ sp_X K R' x n ∧ (∀ r, r ≠ sp_t x n + 9 → R' r = R r) ∧ (∀ r, (r < sp_t x n + 9 ∨ sp_t x n + 9 + 14 < r) → I' r = I r) ∧ I' (sp_t x n + 9 + 1) 2 = nI jm ∧ (∀ i, i < jm → I' (sp_t x n + 9 + 3) i = nI (T i)) ∧ (∀ c, c < jm * 14 → ∀ b, 25 ≤ b → rl_bit (I' (sp_t x n + 9 + 2) c) b = false) ∧ rl_list (I' (sp_t x n + 9 + 2)) (jm * 14) = L.1 ∧ I' (sp_t x n + 9 + 1) 4 = nI L.1.length ∧ I' (sp_t x n + 9 + 1) 5 = nI L.2 ∧ ∀ k, k < 14 → I' (sp_t x n + 9 + 4) k = nI (L.1.filter (fun q => q % 1000 / 50 = k)).length) := by
  have ht : sp_t x n = x + 2 + 4 * n := rfl
  have hn := hX.n5
  have hph : ∀ c b, 25 ≤ b → p c b = false := fun c b hb => by rw [hp]; exact jb_hi hn c b hb
  simp only [f_X6_judge, pu_gr hX.k hX.j.1, pu_gi hX.k, h6, h7, pu_is hX.j.2.1, Option.bind_some]
  refine pu_bind (pu_mono (xbeg hX.j.2.1 hk1 hk2 (by omega)) ?_)
  rintro _ ⟨I1, rfl, u1, u2, u3, u4⟩
  simp only [pu_gr hX.k hX.j.1, pu_gr hX.k hX.a.1, pu_gr hX.k hX.t.1, pu_is hX.j.2.1, Option.bind_some]
  have hX1' : rl_X1 I1 x n d := hX1.keep (fun b _ _ => u1 b (by omega))
  have ht1' : I1 (sp_t x n) 1 = nI jm := by rw [u1 _ (by omega)]; exact ht1
  have hT' : ∀ i, i < jm → I1 (sp_t x n + 1) i = nI (T i) ∧ T i < 1000 := fun i hi => by rw [u1 _ (by omega)]; exact hT i hi
  refine pu_bind (pu_mono (xwalk hX hX1' hd ht1' hT' hjm hk1 hk2 u2 u3 u4 hfu) ?_)
  rintro _ ⟨I2, R2, c1, c2, rfl, hw⟩
  have hw0 : jw K I1 R (sp_t x n + 9) n jm rb ky T (Sr n rb ky d T jm rf rt 0) c1 c2 I2 R2 := hw.mark (fun _ _ => rfl) (fun c hc b => (hw.2.2.2.2.2.2.2.2 c hc b).trans ⟨Or.inl, fun w => w.elim id (fun ⟨l, hl, _⟩ => absurd hl (Nat.not_lt_zero _))⟩)
  have hX2 := hw.sx hX
  rw [← nI_0]
  refine xrep hX hX1' hd ht1' hT' hjm hk1 hk2 (by omega) hrc (by rw [u1 _ (by omega)]; exact hr2) (fun i hi => by rw [u1 _ (by omega), u1 (sp_t x n + 5) (by omega)]; exact hrr i hi) ?_ rc fu 0 I2 (by omega) (by omega) hw0
  intro I3 hw3
  obtain ⟨v1, v2, v3, v4, v5, v6, v7, v8, v9⟩ := hw3
  have v4' : ∀ r, (r < sp_t x n + 9 ∨ sp_t x n + 9 + 14 < r) → I3 r = I r := fun r hr => by rw [v4 r hr, u1 r (by omega)]
  simp only [f_X6_judge_B82, pu_gr hX2.k hX2.j.1, pu_gr hX2.j.2.1 hX2.j.2.2.1, Option.bind_some]
  rw [← nI_0]
  have hbits : ∀ c, c < jm * 14 → ∀ b, rl_bit (I3 (sp_t x n + 9 + 2) c) b = p c b := fun c hc b => by
    rw [Bool.eq_iff_iff, v9 c hc b, hp]
    exact Sr_jb hc
  have hE0 : ∀ c, jE xk xt T 0 c = false := fun c => rfl
  have hj0 : jv I3 (sp_t x n + 9) jm p (jE xk xt T 0) I3 := ⟨fun _ _ _ => rfl, fun _ _ => rfl, by rw [jf_none hE0]; exact v6.2.2, fun c hc b => by rw [hbits c hc b, hE0]; simp⟩
  refine xexc hX2 v6.1 hjm (fun i hi => ⟨v7 i hi, (hT i hi).2⟩) hph hxc (by rw [v4' _ (by omega)]; exact hx2) (fun i hi => by rw [v4' _ (by omega), v4' (sp_t x n + 8) (by omega)]; exact hxx i hi) (by omega) ?_ xc fu 0 I3 (by omega) (by omega) hj0
  intro I4 hv
  have hF : sp_F K R2 (sp_t x n + 9 + 1) := hX2.j.2.2.2.1
  simp only [f_X6_judge_B131, pu_is hF.1, Option.bind_some]
  unfold f_X2_sum
  obtain ⟨w1, w2, w3, w4⟩ := hv
  have hlist : rl_list (I4 (sp_t x n + 9 + 2)) (jm * 14) = L.1 := by
    rw [hL]
    exact rl_list_jf (jm * 14) (fun c hc b _ => w4 c hc b)
  have hhi : ∀ c, c < jm * 14 → ∀ b, 25 ≤ b → rl_bit (I4 (sp_t x n + 9 + 2) c) b = false := fun c hc b hb => by rw [w4 c hc b, hph c b hb]; rfl
  have hs := xsum (N := N) (fu := fu) (Iw := I4) hF (by rw [w2 2 (by decide)]; exact v6.1) hjm hhi (jm * 14) fu 0 I4 (by omega) (by omega) (fun _ _ _ => rfl) (fun _ _ => rfl) (by rw [w2 4 (by decide)]; exact v6.2.1) (fun k hk => by rw [w1 _ (by omega) (by omega)]; exact v8 k hk)
  rw [nI_0] at hs
  refine pu_bind (pu_mono hs ?_)
  rintro _ ⟨I5, rfl, s1, s2, s3, s4⟩
  rw [hlist] at s3 s4 ⊢
  have e2 : I5 (sp_t x n + 9 + 2) = I4 (sp_t x n + 9 + 2) := s1 _ (by omega) (by omega)
  refine pu_some ⟨I5, R2, rfl, hX2, v3.1, fun r hr => ?_, ?_, fun i hi => ?_, fun c hc b hb => ?_, ?_, s3, ?_, s4⟩
  · rw [s1 r (by omega) (by omega), w1 r (by omega) (by omega)]
    exact v4' r hr
  · rw [s2 2 (by decide), w2 2 (by decide)]
    exact v6.1
  · rw [s1 _ (by omega) (by omega), w1 _ (by omega) (by omega)]
    exact v7 i hi
  · rw [e2]
    exact hhi c hc b hb
  · rw [e2]
    exact hlist
  · rw [s2 5 (by decide), w3, hL]
theorem op_judge {ky : Int32} (h : rl_W K I R x y n d rb ky g rc rf rt xc xk xt) (hfu : 1700 ≤ fu) : pu_ok (f_X6_judge fu x (K, I, R, N)) (fun r => pu_ok (f_X7_judge fu y r.2) (fun q => r.1 = q.1 ∧ rl_V x y q.2)) := by
  have ht : sp_t x n = x + 2 + 4 * n := rfl
  obtain ⟨a1, a2, a3, a4, a5, a6, a7, a8, a9, a10, a11⟩ := id h
  obtain ⟨b1, b2, b3, b4, b5, b6, b7, b8, b9⟩ := id a7
  obtain ⟨jm, T, i1, i2, i3, i4⟩ := id a10
  have hn := a1.n5
  have hk1 : -7 ≤ ky.toInt := Int32.le_iff_toInt_le.mp b8
  have hk2 : ky.toInt ≤ 7 := Int32.le_iff_toInt_le.mp b9
  obtain ⟨⟨r1, r2, r3, r4⟩, r5⟩ := id a8
  obtain ⟨⟨x1, x2, x3, x4⟩, x5⟩ := id a9
  refine pu_mono (xjudge a1 a5 a4 i1 i3 i2 hk1 hk2 b1 (by rw [b2]; exact iI_of ky) r1 r2 (fun i hi => ⟨(r4 i hi).1, (r4 i hi).2.1, (r4 i hi).2.2.2.2⟩) x1 x2 (fun i hi => ⟨(x4 i hi).1, (x4 i hi).2.1, x5 i hi, (x4 i hi).2.2.2.2.2⟩) hfu rfl rfl) ?_
  rintro _ ⟨I', R', rfl, hX', k1, k2, e1, e2, e3, e4, e5, e6, e7⟩
  have hlen : (yjf n (bt rb) ky.toInt d.2.2.2.2.1 d.2.2.2.2.2 (fun m v => nt_at d (T m) v) T jm rc rf rt xc xk xt (jm * 14)).1.length ≤ 12240 := yjf_len hn (by omega)
  have hfold : jf (jE xk xt T xc) (jb n (bt rb) (jd_br n ky.toInt d.2.2.2.2.1 d.2.2.2.2.2 (fun m v => nt_at d (T m) v) T jm rc rf rt)) (jm * 14) = yjf n (bt rb) ky.toInt d.2.2.2.2.1 d.2.2.2.2.2 (fun m v => nt_at d (T m) v) T jm rc rf rt xc xk xt (jm * 14) := rfl
  rw [hfold] at e4 e5 e6 e7 ⊢
  have hY' : sp_Y K R' y := a2.re k1 (by omega)
  have a6' : rl_Y1 I' y n d := a6.keep (by rw [k2 y (by omega)]) (fun b q1 q2 => k2 b (by omega))
  simp only [f_X7_judge, pu_is hY'.k, Option.bind_some]
  refine pu_bind (pu_mono (lr_learn hY' (rl_YE a6') a4.1 a1.n5 (by rw [k2 y (by omega)]; exact b6) b7 (by omega)) ?_)
  rintro _ ⟨J, c', T', rfl, j1, j2, j3, j4, j5, j6, j7⟩
  obtain ⟨hc, hTT⟩ := i4.uniq j6
  subst hc
  simp only [pu_pi hY'.k, Option.bind_some]
  generalize hJ0 : hp_set (hp_set J y 19 0) y 20 0 = J0
  have z1 : ∀ r, r ≠ y → J0 r = J r := fun r hr => by rw [← hJ0, pu_set_row _ _ _ _ hr, pu_set_row _ _ _ _ hr]
  have z2 : ∀ k, k ≠ 19 → k ≠ 20 → J0 y k = J y k := fun k q1 q2 => by rw [← hJ0, pu_set_off _ _ _ _ q2, pu_set_off _ _ _ _ q1]
  have z3 : J0 y 19 = 0 := by rw [← hJ0, pu_set_off _ _ _ _ (by decide), pu_set_at]
  have z4 : J0 y 20 = 0 := by rw [← hJ0, pu_set_at]
  have m1 : ∀ r, r ≠ y → r ≠ y + 12 → r ≠ y + 13 → J0 r = I' r := fun r q1 q2 q3 => by rw [z1 r q1, j1 r q1 q2 q3]
  have m2 : ∀ r, r ≠ y → r ≠ y + 12 → r ≠ y + 13 → (r < sp_t x n + 9 ∨ sp_t x n + 9 + 14 < r) → J0 r = I r := fun r q1 q2 q3 q4 => by rw [m1 r q1 q2 q3, k2 r q4]
  have m3 : ∀ k, k ≠ 16 → k ≠ 19 → k ≠ 20 → J0 y k = I y k := fun k q1 q2 q3 => by rw [z2 k q2 q3, j2 k q1, k2 y (by omega)]
  have hyr : yr_at J0 y n jm (fun m v => nt_at d (T m) v) := yr_learn a4 a6' (m1 _ (by omega) (by omega) (by omega)) (m1 _ (by omega) (by omega) (by omega)) hn i2 (fun v hv m hm => by rw [z1 _ (by omega), hTT m hm]; exact j7 v hv m hm)
  have hyc : yc K J0 R' y n jm (fun m v => nt_at d (T m) v) T ky.toInt d.2.2.2.2.1 d.2.2.2.2.2 rc rf rt := by
    refine ⟨hY', hyr, ?_, a1.n2, ⟨?_, hk1, hk2⟩, fun v hv => ?_, ?_, fun j hj => ?_, ?_, r1, fun i hi => ?_⟩
    · rw [m3 0 (by decide) (by decide) (by decide)]
      exact a6.1
    · rw [m3 8 (by decide) (by decide) (by decide), b5]
      exact iI_of ky
    · rw [m2 (y + 5) (by omega) (by omega) (by omega) (by omega), m2 (y + 6) (by omega) (by omega) (by omega) (by omega)]
      exact ⟨(a6.2 v hv).2.1, (a6.2 v hv).2.2.1⟩
    · rw [z2 16 (by decide) (by decide)]
      exact j3
    · rw [z1 _ (by omega), hTT j hj]
      exact j5 j hj
    · rw [m3 10 (by decide) (by decide) (by decide)]
      exact r3
    · rw [m2 (y + 8) (by omega) (by omega) (by omega) (by omega), m2 (y + 9) (by omega) (by omega) (by omega) (by omega)]
      exact (r4 i hi).2.2
  have hys0 : ys J0 J0 y T 0 (yjf n (bt rb) ky.toInt d.2.2.2.2.1 d.2.2.2.2.2 (fun m v => nt_at d (T m) v) T jm rc rf rt xc xk xt (14 * 0)) := ⟨fun _ _ _ _ => rfl, fun _ _ _ => rfl, z3, z4, fun i hi => absurd hi (Nat.not_lt_zero _), fun i hi => absurd hi (Nat.not_lt_zero _)⟩
  have hjj := yj_m (N := N) (fu := fu) hyc (fun k hk => by rw [m2 (y + 7) (by omega) (by omega) (by omega) (by omega), b4 k hk, b_get rb (by omega)]; rfl) x1 (by rw [m3 13 (by decide) (by decide) (by decide)]; exact x3) (fun i hi => by rw [m2 (y + 10) (by omega) (by omega) (by omega) (by omega), m2 (y + 11) (by omega) (by omega) (by omega) (by omega)]; exact (x4 i hi).2.2) (by omega) jm fu 0 J0 (by omega) (by omega) hys0
  rw [nI_0, Nat.mul_comm 14 jm] at hjj
  refine pu_mono hjj ?_
  rintro _ ⟨J', rfl, y1, y2, y3, y4, y5, y6⟩
  have w1 : ∀ r, r ≠ y → r ≠ y + 12 → r ≠ y + 13 → r ≠ y + 14 → r ≠ y + 15 → (r < sp_t x n + 9 ∨ sp_t x n + 9 + 14 < r) → J' r = I r := fun r q1 q2 q3 q4 q5 q6 => by rw [y1 r q1 q4 q5]; exact m2 r q1 q2 q3 q6
  have w2 : ∀ k, k ≠ 16 → k ≠ 19 → k ≠ 20 → J' y k = I y k := fun k q1 q2 q3 => by rw [y2 k q2 q3]; exact m3 k q1 q2 q3
  have w3 : ∀ r, r < y → J' r = I' r := fun r q => by rw [y1 r (by omega) (by omega) (by omega)]; exact m1 r (by omega) (by omega) (by omega)
  have f0 : J' (sp_t x n + 10) = I' (sp_t x n + 9 + 1) := w3 _ (by omega)
  have f1 : J' (sp_t x n + 10 + 1) = I' (sp_t x n + 9 + 2) := w3 _ (by omega)
  have f2 : J' (sp_t x n + 10 + 2) = I' (sp_t x n + 9 + 3) := w3 _ (by omega)
  have f3 : J' (sp_t x n + 10 + 3) = I' (sp_t x n + 9 + 4) := w3 _ (by omega)
  refine ⟨rfl, K, J', R', N, n, d, rb, ky, g, rc, rf, rt, xc, xk, xt, rfl, hX', hY', a3, a4, a5.keep (fun b q1 q2 => w1 b (by omega) (by omega) (by omega) (by omega) (by omega) (by omega)), a6.keep (w2 0 (by decide) (by decide) (by decide)) (fun b q1 q2 => w1 b (by omega) (by omega) (by omega) (by omega) (by omega) (by omega)), a7.keep (w1 x (by omega) (by omega) (by omega) (by omega) (by omega) (by omega)) (w1 _ (by omega) (by omega) (by omega) (by omega) (by omega) (by omega)) (w2 8 (by decide) (by decide) (by decide)) (w2 9 (by decide) (by decide) (by decide)), ⟨a8.1.keep (w1 _ (by omega) (by omega) (by omega) (by omega) (by omega) (by omega)) (w1 _ (by omega) (by omega) (by omega) (by omega) (by omega) (by omega)) (w1 _ (by omega) (by omega) (by omega) (by omega) (by omega) (by omega)) (w2 10 (by decide) (by decide) (by decide)) (w1 _ (by omega) (by omega) (by omega) (by omega) (by omega) (by omega)) (w1 _ (by omega) (by omega) (by omega) (by omega) (by omega) (by omega)), r5⟩, ⟨a9.1.keep (w1 _ (by omega) (by omega) (by omega) (by omega) (by omega) (by omega)) (w1 _ (by omega) (by omega) (by omega) (by omega) (by omega) (by omega)) (w1 _ (by omega) (by omega) (by omega) (by omega) (by omega) (by omega)) (w2 13 (by decide) (by decide) (by decide)) (w1 _ (by omega) (by omega) (by omega) (by omega) (by omega) (by omega)) (w1 _ (by omega) (by omega) (by omega) (by omega) (by omega) (by omega)), x5⟩, a10.keep (by rw [w1 _ (by omega) (by omega) (by omega) (by omega) (by omega) (by omega)]) (w1 _ (by omega) (by omega) (by omega) (by omega) (by omega) (by omega)), jm, i2, ?_, fun i hi => ?_, ?_, ?_, ?_, ?_, ?_, ?_, ?_⟩
  · rw [f0]
    exact e1
  · rw [f2, e2 i hi, y6 i hi]
  · rw [f1]
    exact e3
  · rw [f1, e4]
    omega
  · rw [f1, f0, e4]
    exact e5
  · rw [f1, e4]
    exact y3
  · rw [f1, e4]
    exact y5
  · rw [f0, e6, y4]
  · rw [f1, f3, e4]
    exact e7
end JO
