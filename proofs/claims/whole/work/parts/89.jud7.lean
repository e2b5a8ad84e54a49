/-! the class judges: the walk -/
def jw (K : Nat → Nat × Nat) (I0 : Nat → Nat → Int32) (R0 : Nat → Nat → Option Nat) (j n jm : Nat) (rb : Int32) (ky : Int) (T : Nat → Nat) (S : Nat → Nat → Prop) (c1 c2 : Nat) (I : Nat → Nat → Int32) (R : Nat → Nat → Option Nat) : Prop := ((c1 = j + 5 ∧ c2 = j + 10) ∨ (c1 = j + 10 ∧ c2 = j + 5)) ∧ (R j 1 = some c1 ∧ R j 2 = some c2) ∧ ((∀ r, r ≠ j → R r = R0 r) ∧ R j 0 = R0 j 0) ∧ (∀ r, (r < j ∨ j + 14 < r) → I r = I0 r) ∧ (I j 4 = nI n ∧ I j 5 = rb ∧ I j 6 = nI (nt_ll ky) ∧ I j 7 = iI (nt_ls ky)) ∧ (I (j + 1) 2 = nI jm ∧ I (j + 1) 4 = 0 ∧ I (j + 1) 5 = 0) ∧ (∀ i, i < jm → I (j + 3) i = nI (T i)) ∧ (∀ k, k < 14 → I (j + 4) k = 0) ∧ (∀ c, c < jm * 14 → ∀ b, rl_bit (I (j + 2) c) b = true ↔ S c b)
section JW
variable {K : Nat → Nat × Nat} {I I' I0 : Nat → Nat → Int32} {R R' R0 : Nat → Nat → Option Nat} {N fu x n jm m : Nat} {rb : Int32} {ky : Int} {T : Nat → Nat} {S S' : Nat → Nat → Prop} {c1 c2 : Nat} {d : rl_D}
theorem sp_C.re {c j : Nat} (h : sp_C K R0 c) (hr : ∀ r, r ≠ j → R r = R0 r) (hc : c ≠ j) : sp_C K R c := by
  unfold sp_C at *
  rw [hr c hc]
  exact h
theorem sp_F.re {f j : Nat} (h : sp_F K R0 f) (hr : ∀ r, r ≠ j → R r = R0 r) (hc : f ≠ j) : sp_F K R f := by
  unfold sp_F at *
  rw [hr f hc]
  exact h
theorem sp_X.re (h : sp_X K R0 x n) (hr : ∀ r, r ≠ sp_t x n + 9 → R r = R0 r) (h0 : R (sp_t x n + 9) 0 = R0 (sp_t x n + 9) 0) (h12 : (R (sp_t x n + 9) 1 = some (sp_t x n + 9 + 5) ∧ R (sp_t x n + 9) 2 = some (sp_t x n + 9 + 10)) ∨ (R (sp_t x n + 9) 1 = some (sp_t x n + 9 + 10) ∧ R (sp_t x n + 9) 2 = some (sp_t x n + 9 + 5))) : sp_X K R x n := by
  have ht : sp_t x n = x + 2 + 4 * n := rfl
  obtain ⟨g1, g2, ⟨g3, g4, g5, g6⟩, ⟨g7, g8⟩, ⟨g9, g10⟩, ⟨g11, g12⟩, ⟨g13, g14, g15, g16, g17, g18, g19⟩, ⟨g20, g21⟩⟩ := h
  have hx : R x = R0 x := hr x (by omega)
  refine ⟨g1, g2, ⟨by rw [hx]; exact g3, g4, g5, fun v hv => ?_⟩, ⟨by rw [hx]; exact g7, ?_⟩, ⟨by rw [hx]; exact g9, ?_⟩, ⟨by rw [hx]; exact g11, ?_⟩, ⟨by rw [hx]; exact g13, g14, by rw [h0]; exact g15, g16.re hr (by omega), g17.re hr (by omega), g18.re hr (by omega), h12⟩, ⟨by rw [hx]; exact g20, g21.re hr (by omega)⟩⟩
  · obtain ⟨q1, q2⟩ := g6 v hv
    refine ⟨by rw [hr _ (by omega)]; exact q1, ?_⟩
    have q2' : sp_P K R0 (x + 2 + 4 * v) := q2
    show sp_P K R (x + 2 + 4 * v)
    unfold sp_P at q2' ⊢
    rw [hr _ (by omega)]
    exact q2'
  · unfold sp_T at *
    rw [hr _ (by omega)]
    exact g8
  · unfold sp_N at *
    rw [hr _ (by omega)]
    exact g10
  · unfold sp_N at *
    rw [hr _ (by omega)]
    exact g12
theorem sp_Y.re {y j : Nat} (h : sp_Y K R0 y) (hr : ∀ r, r ≠ j → R r = R0 r) (hy : y ≠ j) : sp_Y K R y := by
  unfold sp_Y at *
  rw [hr y hy]
  exact h
theorem jw.sx (h : jw K I0 R0 (sp_t x n + 9) n jm rb ky T S c1 c2 I R) (hX : sp_X K R0 x n) : sp_X K R x n := by
  obtain ⟨h1, h2, h3, -⟩ := h
  refine hX.re h3.1 h3.2 ?_
  rcases h1 with ⟨rfl, rfl⟩ | ⟨rfl, rfl⟩
  · exact Or.inl h2
  · exact Or.inr h2
theorem jw.mark {j : Nat} (h : jw K I0 R0 j n jm rb ky T S c1 c2 I R) (hk : ∀ r, r ≠ j + 2 → I' r = I r) (hS : ∀ c, c < jm * 14 → ∀ b, rl_bit (I' (j + 2) c) b = true ↔ S' c b) : jw K I0 R0 j n jm rb ky T S' c1 c2 I' R := by
  obtain ⟨h1, h2, h3, h4, h5, h6, h7, h8, h9⟩ := h
  refine ⟨h1, h2, h3, fun r hr => by rw [hk r (by omega)]; exact h4 r hr, ?_, ?_, fun i hi => ?_, fun k hk' => ?_, hS⟩
  · rw [hk j (by omega)]
    exact h5
  · rw [hk (j + 1) (by omega)]
    exact h6
  · rw [hk (j + 3) (by omega)]
    exact h7 i hi
  · rw [hk (j + 4) (by omega)]
    exact h8 k hk'
/-- chords and the moment's number may change -/
theorem jw.chd {j : Nat} (h : jw K I0 R0 j n jm rb ky T S c1 c2 I R) (hk : ∀ r, r ≠ j → (r < j + 5 ∨ j + 14 < r) → I' r = I r) (hj : ∀ k, k ≠ 3 → I' j k = I j k) : jw K I0 R0 j n jm rb ky T S c1 c2 I' R := by
  obtain ⟨h1, h2, h3, h4, h5, h6, h7, h8, h9⟩ := h
  refine ⟨h1, h2, h3, fun r hr => by rw [hk r (by omega) (by omega)]; exact h4 r hr, ?_, ?_, fun i hi => ?_, fun k hk' => ?_, fun c hc b => ?_⟩
  · rw [hj 4 (by decide), hj 5 (by decide), hj 6 (by decide), hj 7 (by decide)]
    exact h5
  · rw [hk (j + 1) (by omega) (by omega)]
    exact h6
  · rw [hk (j + 3) (by omega) (by omega)]
    exact h7 i hi
  · rw [hk (j + 4) (by omega) (by omega)]
    exact h8 k hk'
  · rw [hk (j + 2) (by omega) (by omega)]
    exact h9 c hc b
theorem jw.swap {j : Nat} (h : jw K I0 R0 j n jm rb ky T S c1 c2 I R) : jw K I0 R0 j n jm rb ky T S c2 c1 I (hp_set (hp_set R j 1 (some c2)) j 2 (some c1)) := by
  obtain ⟨h1, h2, h3, h4⟩ := h
  refine ⟨by omega, ⟨by rw [pu_set_off _ _ _ _ (by decide), pu_set_at], by rw [pu_set_at]⟩, ⟨fun r hr => by rw [pu_set_row _ _ _ _ hr, pu_set_row _ _ _ _ hr]; exact h3.1 r hr, by rw [pu_set_off _ _ _ _ (by decide), pu_set_off _ _ _ _ (by decide)]; exact h3.2⟩, h4⟩
theorem jw.jj (h : jw K I0 R0 (sp_t x n + 9) n jm rb ky T S c1 c2 I R) (hX : sp_X K R0 x n) (hjm : jm ≤ 120) (hk1 : -7 ≤ ky) (hk2 : ky ≤ 7) {X Y : Nat → Option nt_T} (h3 : I (sp_t x n + 9) 3 = nI m) (hm : m < jm) (hcX : ch_at I c1 n X) (hcY : ch_at I c2 n Y) (oX : ∀ v, v < n → ∀ q, X v = some q → nt_ok q) (oY : ∀ v, v < n → ∀ q, Y v = some q → nt_ok q) : xj K I R (sp_t x n + 9) n jm m rb ky c1 c2 X Y := by
  have hXR := h.sx hX
  obtain ⟨h1, h2, -, h4, h5, h6, -⟩ := h
  obtain ⟨-, j1, j2, j3, j4, j5, -⟩ := hXR.j
  refine ⟨⟨j1, j2, j3⟩, ⟨h2.1, ?_, hcX, by omega⟩, ⟨h2.2, ?_, hcY, by omega⟩, ⟨h3, h5.1, h5.2.1⟩, h5.2.2, ⟨h6.1, hm, hjm⟩, ⟨hX.n2, hX.n5⟩, oX, oY, hk1, hk2⟩
  · rcases h1 with ⟨rfl, -⟩ | ⟨rfl, -⟩
    · exact j4
    · exact j5
  · rcases h1 with ⟨-, rfl⟩ | ⟨-, rfl⟩
    · exact j5
    · exact j4
def Sw (n : Nat) (rb : Int32) (ky : Int) (d : rl_D) (T : Nat → Nat) (i : Nat) : Nat → Nat → Prop := fun c b => c / 14 < i ∧ (b / 5 < n ∧ b % 5 < n) ∧ bt rb (c % 14) = true ∧ (nt_mo ky d.2.2.2.2.1 d.2.2.2.2.2 (c % 14) (b / 5) (b % 5) (nt_pv (fun m v => nt_at d (T m) v) (c / 14)) (nt_at d (T (c / 14))) = true ∨ nt_pr n ky (c % 14) (b / 5) (b % 5) (nt_pv (fun m v => nt_at d (T m) v) (c / 14)) (nt_at d (T (c / 14))) = true)
theorem xw (hX : sp_X K R0 x n) (hX1 : rl_X1 I0 x n d) (hd : rl_ok n d) (ht1 : I0 (sp_t x n) 1 = nI jm) (hT : ∀ i, i < jm → I0 (sp_t x n + 1) i = nI (T i) ∧ T i < 1000) (hjm : jm ≤ 120) (hk1 : -7 ≤ ky) (hk2 : ky ≤ 7) (hfu : 130 ≤ fu) : ∀ (s w i c1 c2 : Nat) (I : Nat → Nat → Int32) (R : Nat → Nat → Option Nat), i + s = jm → s < w → jw K I0 R0 (sp_t x n + 9) n jm rb ky T (Sw n rb ky d T i) c1 c2 I R → ch_at I c2 n (nt_pv (fun m v => nt_at d (T m) v) i) → pu_ok (f_X3_walk_L23 fu (sp_t x n + 9) (x + 1) (sp_t x n) (f_X3_walk_B85 fu (sp_t x n + 9) (x + 1) (sp_t x n)) w (nI i) (K, I, R, N)) (fun z => ∃ I' R' c1' c2', z = (K, I', R', N) ∧ jw K I0 R0 (sp_t x n + 9) n jm rb ky T (Sw n rb ky d T jm) c1' c2' I' R') := by
  have ht : sp_t x n = x + 2 + 4 * n := rfl
  have h5 := hX.n5
  intro s
  induction s with
  | zero =>
    intro w i c1 c2 I R h1 h2 h hc
    obtain ⟨w, rfl⟩ : ∃ w', w = w' + 1 := ⟨w - 1, by omega⟩
    have : i = jm := by omega
    subst this
    have hXR := h.sx hX
    have e1 : I (sp_t x n) 1 = nI i := by rw [h.2.2.2.1 _ (by omega)]; exact ht1
    simp only [f_X3_walk_L23, f_X3_walk_B85, pu_gi hXR.t.2.1, e1, Option.bind_some]
    rw [if_pos (Int32.le_refl _)]
    exact pu_some ⟨I, R, c1, c2, rfl, h⟩
  | succ s ih =>
    intro w i c1 c2 I R h1 h2 h hc
    obtain ⟨w, rfl⟩ : ∃ w', w = w' + 1 := ⟨w - 1, by omega⟩
    have hi : i < jm := by omega
    have hXR := h.sx hX
    have e1 : I (sp_t x n) 1 = nI jm := by rw [h.2.2.2.1 _ (by omega)]; exact ht1
    have e2 : I (sp_t x n + 1) i = nI (T i) := by rw [h.2.2.2.1 _ (by omega)]; exact (hT i hi).1
    have kj := hXR.j.2.1
    have hs := h.swap
    have hXs := hs.sx hX
    have hc12 := h.1
    have hCc : sp_C K (hp_set (hp_set R (sp_t x n + 9) 1 (some c2)) (sp_t x n + 9) 2 (some c1)) c1 := by
      obtain ⟨-, -, -, -, j4, j5, -⟩ := hXs.j
      rcases hc12 with ⟨e, -⟩ | ⟨e, -⟩
      · rw [← e] at j4
        exact j4
      · rw [← e] at j5
        exact j5
    simp only [f_X3_walk_L23, pu_gi hXR.t.2.1, e1, Option.bind_some, pu_gr kj h.2.1.1, pu_gr kj h.2.1.2, pu_pr kj, pu_gr kj hs.2.1.2, pu_gr hXs.t.2.1 hXs.t.2.2.1, pu_li hXs.t.2.2.2.2.1 (show i < 120 by omega) (by decide), e2, pu_is hCc.1]
    rw [if_neg (nI_ge hi (by omega))]
    have hX1I : rl_X1 I x n d := hX1.keep (fun b _ _ => h.2.2.2.1 b (by omega))
    refine pu_bind (pu_mono (ld_load hXs hX1I hd hCc (by omega) (hT i hi).2 (by omega)) ?_)
    rintro _ ⟨J, rfl, l1, l2⟩
    simp only [pu_pi kj, pu_is kj, Option.bind_some]
    generalize hJ1 : hp_set J (sp_t x n + 9) 3 (nI i) = J1
    have k1 : ∀ r, r ≠ sp_t x n + 9 → J1 r = J r := fun r hr => by rw [← hJ1, pu_set_row _ _ _ _ hr]
    have k2 : ∀ k, k ≠ 3 → J1 (sp_t x n + 9) k = J (sp_t x n + 9) k := fun k hk => by rw [← hJ1, pu_set_off _ _ _ _ hk]
    have k3 : J1 (sp_t x n + 9) 3 = nI i := by rw [← hJ1, pu_set_at]
    have hw1 := hs.chd (I' := J1) (fun r q1 q2 => by rw [k1 r q1]; exact l1 r (by omega)) (fun k hk => by rw [k2 k hk, l1 _ (by omega)])
    have hcX : ch_at J1 c2 n (nt_pv (fun m v => nt_at d (T m) v) i) := hc.keep (by rw [k1 _ (by omega)]; exact l1 _ (by omega)) (by rw [k1 _ (by omega)]; exact l1 _ (by omega)) (by rw [k1 _ (by omega)]; exact l1 _ (by omega)) (by rw [k1 _ (by omega)]; exact l1 _ (by omega))
    have hcY : ch_at J1 c1 n (nt_at d (T i)) := l2.keep (k1 _ (by omega)) (k1 _ (by omega)) (k1 _ (by omega)) (k1 _ (by omega))
    have oY : ∀ v, v < n → ∀ q, nt_at d (T i) v = some q → nt_ok q := fun v hv q hq => (nt_atok hd hv hq).1
    have oX : ∀ v, v < n → ∀ q, nt_pv (fun m v => nt_at d (T m) v) i v = some q → nt_ok q := by
      intro v hv q hq
      unfold nt_pv at hq
      split at hq
      · exact absurd hq (by simp)
      · exact (nt_atok hd hv hq).1
    have hxj := hw1.jj hX hjm hk1 hk2 k3 hi hcX hcY oX oY
    have hmm := xm (fu := fu) (N := N) (S0 := Sw n rb ky d T i) (low := d.2.2.2.2.1) (high := d.2.2.2.2.2) (x := x + 2) (a1 := x + 1) hxj hXs.a.2 (fun v hv => by
      rw [k1 _ (by omega), l1 _ (by omega)]
      exact ⟨(hX1I v hv).2.1, (hX1I v hv).2.2.1⟩) (fun v hv => by omega) (by omega) n fu 0 (K, J1, _, N) (by omega) (by omega) ⟨J1, rfl, fun _ _ => rfl, fun c hc b => (hw1.2.2.2.2.2.2.2.2 c hc b).trans ⟨Or.inl, fun w => w.elim id (fun w => absurd w.2.2.2.1 (Nat.not_lt_zero _))⟩⟩
    rw [nI_0] at hmm
    refine pu_bind (pu_mono hmm ?_)
    rintro _ ⟨J2, rfl, m1, m2⟩
    have hw2 := hw1.mark m1 m2
    have hxj2 := hxj.keep m1
    simp only [pu_is kj, Option.bind_some]
    refine pu_bind (pu_mono (xpair hxj2 (by omega) m2) ?_)
    rintro _ ⟨J3, rfl, n1, n2⟩
    have hw3 := hw2.mark n1 n2
    simp only [ho_id, Option.bind_some, nI_1]
    refine ih w (i + 1) c2 c1 J3 _ (by omega) (by omega) (hw3.mark (fun _ _ => rfl) (fun c hc b => (n2 c hc b).trans ?_)) ?_
    · unfold xS Sw
      constructor
      · rintro ((q | ⟨q1, q2, q3, -, q5⟩) | ⟨q1, q2, q3, -, q5⟩)
        · exact ⟨by omega, q.2⟩
        · exact ⟨by omega, q2, q3, Or.inl (by rw [q1]; exact q5)⟩
        · exact ⟨by omega, q2, q3, Or.inr (by rw [q1]; exact q5)⟩
      · rintro ⟨q1, q2, q3, q4⟩
        rcases Nat.lt_or_ge (c / 14) i with q | q
        · exact Or.inl (Or.inl ⟨q, q2, q3, q4⟩)
        · have he : c / 14 = i := by omega
          rw [he] at q4
          rcases q4 with q4 | q4
          · exact Or.inl (Or.inr ⟨he, q2, q3, trivial, q4⟩)
          · exact Or.inr ⟨he, q2, q3, trivial, q4⟩
    · have : nt_pv (fun m v => nt_at d (T m) v) (i + 1) = nt_at d (T i) := by
        unfold nt_pv
        rw [if_neg (by omega), Nat.add_sub_cancel]
      rw [this]
      exact hcY.keep (by rw [n1 _ (by omega), m1 _ (by omega)]) (by rw [n1 _ (by omega), m1 _ (by omega)]) (by rw [n1 _ (by omega), m1 _ (by omega)]) (by rw [n1 _ (by omega), m1 _ (by omega)])
theorem xwalk (hX : sp_X K R0 x n) (hX1 : rl_X1 I0 x n d) (hd : rl_ok n d) (ht1 : I0 (sp_t x n) 1 = nI jm) (hT : ∀ i, i < jm → I0 (sp_t x n + 1) i = nI (T i) ∧ T i < 1000) (hjm : jm ≤ 120) (hk1 : -7 ≤ ky) (hk2 : ky ≤ 7) (hj5 : I0 (sp_t x n + 9) 5 = rb) (hj6 : I0 (sp_t x n + 9) 6 = nI (nt_ll ky)) (hj7 : I0 (sp_t x n + 9) 7 = iI (nt_ls ky)) (hfu : 1700 ≤ fu) : pu_ok (f_X3_walk fu (sp_t x n + 9) (x + 1) (sp_t x n) (K, I0, R0, N)) (fun z => ∃ I' R' c1' c2', z = (K, I', R', N) ∧ jw K I0 R0 (sp_t x n + 9) n jm rb ky T (Sw n rb ky d T jm) c1' c2' I' R') := by
  have ht : sp_t x n = x + 2 + 4 * n := rfl
  obtain ⟨-, j1, j2, j3, j4, j5, j6⟩ := hX.j
  simp only [f_X3_walk, pu_gr j1 j2, pu_is j3.1, Option.bind_some]
  refine pu_bind (pu_mono (xfb (t := sp_t x n) j3 hX.t.2 (by omega) hfu) ?_)
  rintro _ ⟨I1, rfl, a1, a2, a3, a4, a5, a6, a7⟩
  simp only [pu_ln hX.a.2.1, pu_pi j1, Option.bind_some]
  obtain ⟨c1, c2, hcc, r1, r2⟩ : ∃ c1 c2, ((c1 = sp_t x n + 9 + 5 ∧ c2 = sp_t x n + 9 + 10) ∨ (c1 = sp_t x n + 9 + 10 ∧ c2 = sp_t x n + 9 + 5)) ∧ R0 (sp_t x n + 9) 1 = some c1 ∧ R0 (sp_t x n + 9) 2 = some c2 := by
    rcases j6 with ⟨q1, q2⟩ | ⟨q1, q2⟩
    · exact ⟨_, _, Or.inl ⟨rfl, rfl⟩, q1, q2⟩
    · exact ⟨_, _, Or.inr ⟨rfl, rfl⟩, q1, q2⟩
  have hC2 : sp_C K R0 c2 := by
    rcases hcc with ⟨-, e⟩ | ⟨-, e⟩
    · rw [e]
      exact j5
    · rw [e]
      exact j4
  simp only [pu_gr j1 r2, pu_is hC2.1, Option.bind_some]
  refine pu_bind (pu_mono (xhush hC2 (by omega)) ?_)
  rintro _ ⟨I2, rfl, b1, b2⟩
  have k1 : ∀ r, r ≠ sp_t x n + 9 → r ≠ c2 + 1 → I2 r = I1 r := fun r q1 q2 => by rw [b1 r q2, pu_set_row _ _ _ _ q1]
  have k2 : ∀ k, k ≠ 4 → I2 (sp_t x n + 9) k = I0 (sp_t x n + 9) k := fun k hk => by rw [b1 _ (by omega), pu_set_off _ _ _ _ hk, a1 _ (by omega)]
  have key := xw (fu := fu) (N := N) hX hX1 hd ht1 hT hjm hk1 hk2 (by omega) jm fu 0 c1 c2 I2 R0 (by omega) (by omega) (rb := rb) ⟨hcc, ⟨r1, r2⟩, ⟨fun _ _ => rfl, rfl⟩, fun r hr => by rw [k1 r (by omega) (by omega)]; exact a1 r (by omega), ⟨by rw [b1 _ (by omega), pu_set_at], by rw [k2 5 (by decide)]; exact hj5, by rw [k2 6 (by decide)]; exact hj6, by rw [k2 7 (by decide)]; exact hj7⟩, ⟨by rw [k1 _ (by omega) (by omega), a4]; exact ht1, by rw [k1 _ (by omega) (by omega)]; exact a5, by rw [k1 _ (by omega) (by omega)]; exact a6⟩, fun i hi => by rw [k1 _ (by omega) (by omega), a7 i (by omega)]; exact (hT i hi).1, fun k hk => by rw [k1 _ (by omega) (by omega)]; exact a3 k hk, fun c hc b => by
      rw [k1 _ (by omega) (by omega), a2 c (by omega)]
      have e0 : rl_bit 0 b = false := b_0 b
      rw [e0]
      exact ⟨fun q => absurd q (by decide), fun q => absurd q.1 (Nat.not_lt_zero _)⟩⟩ (fun v hv => ⟨fun _ => b2 v (by have := hX.n5; omega), fun q hq => absurd hq (by simp [nt_pv])⟩)
  rw [nI_0] at key
  exact key
end JW
