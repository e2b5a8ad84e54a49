/-! the beginning: both, and the law -/
theorem pu_sr {K : Nat → Nat × Nat} {I : Nat → Nat → Int32} {R : Nat → Nat → Option Nat} {N c a n j v m : Nat} (h : K a = (c + 53, n)) (hj : j < n) (hn : n < 2 ^ 31) (hv : K v = (c + 3, m)) : ho_sr c a (nI j) v (K, I, R, N) = some (K, I, hp_set R a j (some v), N) := by
  have h1 : ¬ (nI j < 0 ∨ n ≤ (nI j).toNatClampNeg) := nI_in hj hn
  simp only [ho_sr, h, hv]
  rw [if_pos ⟨trivial, h1, trivial⟩, nI_clamp (by omega)]
  rfl
section IM
variable {K : Nat → Nat × Nat} {I : Nat → Nat → Int32} {R : Nat → Nat → Option Nat} {N fu x y n : Nat} {β : Type} {P : β → Prop}
theorem o_P {kk : hp_S → Option β} (h : ∀ K' I' R', (∀ r, r < N → K' r = K r ∧ I' r = I r ∧ R' r = R r) → sp_P K' R' N → (I' N 3 = 0 ∧ I' N 4 = 0 ∧ I' N 5 = 96) → (∀ r, N < r → r < N + 4 → ∀ k, I' r k = 0) → pu_ok (kk (K', I', R', N + 4)) P) : pu_ok ((f_X4_init fu N (hp_nw (K, I, R, N) (4 + 3) 0)).bind kk) P := by
  have e : f_X4_init fu N (hp_nw (K, I, R, N) (4 + 3) 0) = ini 4 N (fun z => (ho_pi 4 N 4 0 z).bind fun z => (ho_pi 4 N 5 96 z).bind fun z => some z) [(0, 1, 24, 24), (1, 1, 24, 24), (2, 1, 24, 24)] (hp_nw (K, I, R, N) (4 + 3) 0) := rfl
  rw [e]
  refine pu_bind (ob _ rfl ?_)
  intro K' I' R' q1 q2 q3
  simp only [pu_pi q2, Option.bind_some]
  refine pu_some (h K' _ R' (fun r hr => ⟨(q1.1 r hr).1, ?_, (q1.1 r hr).2.2⟩) ⟨q2, (q3 0 _ rfl).2, (q3 1 _ rfl).2, (q3 2 _ rfl).2, (q3 0 _ rfl).1, (q3 1 _ rfl).1, (q3 2 _ rfl).1⟩ ⟨?_, ?_, ?_⟩ (fun r h1 h2 k => ?_))
  · rw [pu_set_row _ _ _ _ (by omega), pu_set_row _ _ _ _ (by omega)]
    exact (q1.1 r hr).2.1
  · rw [pu_set_off _ _ _ _ (by decide), pu_set_off _ _ _ _ (by decide)]
    exact q1.2 N (Nat.le_refl _) (by simp only [List.length_cons, List.length_nil]; omega) 3
  · rw [pu_set_off _ _ _ _ (by decide), pu_set_at]
  · rw [pu_set_at]
  · rw [pu_set_row _ _ _ _ (by omega), pu_set_row _ _ _ _ (by omega)]
    exact q1.2 r (by omega) (by simp only [List.length_cons, List.length_nil]; omega) k
def PS (x n i : Nat) (K : Nat → Nat × Nat) (I : Nat → Nat → Int32) (R : Nat → Nat → Option Nat) (N : Nat) : Prop := N = x + 2 + 4 * i ∧ K x = (6 + 3, 0) ∧ R x 0 = some (x + 1) ∧ K (x + 1) = (4 + 53, n) ∧ (∀ v, v < i → R (x + 1) v = some (x + 2 + 4 * v) ∧ sp_P K R (x + 2 + 4 * v) ∧ I (x + 2 + 4 * v) 3 = 0 ∧ I (x + 2 + 4 * v) 4 = 0 ∧ I (x + 2 + 4 * v) 5 = 96) ∧ ∀ r, r < N → (∀ v, v < i → r ≠ x + 2 + 4 * v) → ∀ k, I r k = 0
theorem ps_step {i : Nat} (h : PS x n i K I R N) (hi : i < n) (hn : n ≤ 5) {v : Int32} (hv : v = nI i) {kk : hp_S → Option β} (hkk : ∀ K' I' R' N', PS x n (i + 1) K' I' R' N' → pu_ok (kk (K', I', R', N')) P) : pu_ok ((ho_gr 6 x 0 (K, I, R, N)).bind fun r => (f_X4_init fu N (hp_nw (K, I, R, N) (4 + 3) 0)).bind fun z => (ho_sr 4 r v N z).bind kk) P := by
  obtain ⟨h1, h2, h3, h4, h5, h6⟩ := h
  subst hv
  rw [pu_gr h2 h3, Option.bind_some]
  refine o_P ?_
  intro K' I' R' q1 q2 q3 q4
  have k4 : K' (x + 1) = (4 + 53, n) := by rw [(q1 (x + 1) (by omega)).1]; exact h4
  rw [pu_sr k4 hi (by omega) q2.1, Option.bind_some]
  refine hkk K' I' _ _ ⟨by omega, ?_, ?_, k4, fun w hw => ?_, fun r hr hr2 k => ?_⟩
  · rw [(q1 x (by omega)).1]
    exact h2
  · rw [pu_set_row _ _ _ _ (by omega), (q1 x (by omega)).2.2]
    exact h3
  · by_cases hwi : w = i
    · subst hwi
      rw [← h1]
      refine ⟨pu_set_at _ _ _ _, q2.at (fun r w1 w2 => ⟨rfl, pu_set_row _ _ _ _ (by omega)⟩), q3⟩
    · obtain ⟨b1, b2, b3⟩ := h5 w (by omega)
      refine ⟨?_, b2.at (fun r w1 w2 => ⟨(q1 r (by omega)).1, ?_⟩), ?_⟩
      · rw [pu_set_off _ _ _ _ hwi, (q1 (x + 1) (by omega)).2.2]
        exact b1
      · rw [pu_set_row _ _ _ _ (by omega)]
        exact (q1 r (by omega)).2.2
      · rw [(q1 _ (by omega)).2.1]
        exact b3
  · by_cases q : r < N
    · rw [(q1 r q).2.1]
      exact h6 r q (fun v hv => hr2 v (by omega)) k
    · have := hr2 i (by omega)
      exact q4 r (by omega) (by omega) k
theorem x_52 (h : PS x n n K I R N) (h2 : 2 ≤ n) (h5 : n ≤ 5) (v : Int32) : pu_ok (f_X6_init_B52 fu x v (K, I, R, N)) (fun z => ∃ K' I' R', z = (K', I', R', sp_t x n + 29) ∧ sp_X K' R' x n ∧ (∀ v, v < n → I' (x + 2 + 4 * v) 3 = 0 ∧ I' (x + 2 + 4 * v) 4 = 0 ∧ I' (x + 2 + 4 * v) 5 = 96) ∧ I' x 6 = 16383 ∧ (∀ k, k ≠ 6 → I' x k = 0) ∧ ∀ r, r ≠ x → (∀ v, v < n → r ≠ x + 2 + 4 * v) → r < sp_t x n + 29 → ∀ k, I' r k = 0) := by
  obtain ⟨h1, a1, a2, a3, a4, a5⟩ := h
  have ht : N = sp_t x n := h1
  have ht' : sp_t x n = x + 2 + 4 * n := rfl
  clear h1
  subst ht
  generalize sp_t x n = t at *
  simp only [f_X6_init_B52, ho_nw, Option.bind_some]
  refine o_T (N := t) ?_
  intro K1 I1 R1 e1 s1
  have k1 : K1 x = (6 + 3, 0) := by rw [(e1.1 x (by omega)).1]; exact a1
  simp only [pu_pr k1, Option.bind_some]
  refine o_N4 (N := t + 3) ?_
  intro K2 I2 R2 e2 s2
  have k2 : K2 x = (6 + 3, 0) := by rw [(e2.1 x (by omega)).1]; exact k1
  simp only [pu_pr k2, Option.bind_some]
  refine o_N20 (N := t + 3 + 3) ?_
  intro K3 I3 R3 e3 s3
  have k3 : K3 x = (6 + 3, 0) := by rw [(e3.1 x (by omega)).1]; exact k2
  simp only [pu_pr k3, Option.bind_some]
  refine o_J (N := t + 3 + 3 + 3) ?_
  intro K4 I4 R4 e4 s4
  have k4 : K4 x = (6 + 3, 0) := by rw [(e4.1 x (by omega)).1]; exact k3
  simp only [pu_pr k4, Option.bind_some]
  refine o_C (N := t + 3 + 3 + 3 + 15) ?_
  intro K5 I5 R5 e5 s5
  have k5 : K5 x = (6 + 3, 0) := by rw [(e5.1 x (by omega)).1]; exact k4
  have htl : ho_tl h_t0 0 = some 16383 := by decide
  simp only [pu_pr k5, pu_pi k5, htl, Option.bind_some]
  have cK : ∀ r, r < t → K5 r = K r := fun r hr => by rw [(e5.1 r (by omega)).1, (e4.1 r (by omega)).1, (e3.1 r (by omega)).1, (e2.1 r (by omega)).1, (e1.1 r (by omega)).1]
  have cI : ∀ r, r < t → I5 r = I r := fun r hr => by rw [(e5.1 r (by omega)).2.1, (e4.1 r (by omega)).2.1, (e3.1 r (by omega)).2.1, (e2.1 r (by omega)).2.1, (e1.1 r (by omega)).2.1]
  have d5 : ∀ r, r ≠ x → r < t + 24 → R5 r = R4 r := fun r hx hr => by rw [(e5.1 r (by omega)).2.2, pu_set_row _ _ _ _ hx]
  have d4 : ∀ r, r ≠ x → r < t + 9 → R4 r = R3 r := fun r hx hr => by rw [(e4.1 r (by omega)).2.2, pu_set_row _ _ _ _ hx]
  have d3 : ∀ r, r ≠ x → r < t + 6 → R3 r = R2 r := fun r hx hr => by rw [(e3.1 r (by omega)).2.2, pu_set_row _ _ _ _ hx]
  have d2 : ∀ r, r ≠ x → r < t + 3 → R2 r = R1 r := fun r hx hr => by rw [(e2.1 r (by omega)).2.2, pu_set_row _ _ _ _ hx]
  have d1 : ∀ r, r ≠ x → r < t → R1 r = R r := fun r hx hr => (e1.1 r hr).2.2
  have z5 : ∀ k, k ≠ 4 → R5 x k = R4 x k := fun k hk => by rw [(e5.1 x (by omega)).2.2, pu_set_off _ _ _ _ hk]
  have z4 : ∀ k, k ≠ 3 → R4 x k = R3 x k := fun k hk => by rw [(e4.1 x (by omega)).2.2, pu_set_off _ _ _ _ hk]
  have z3 : ∀ k, k ≠ 2 → R3 x k = R2 x k := fun k hk => by rw [(e3.1 x (by omega)).2.2, pu_set_off _ _ _ _ hk]
  have z2 : ∀ k, k ≠ 1 → R2 x k = R1 x k := fun k hk => by rw [(e2.1 x (by omega)).2.2, pu_set_off _ _ _ _ hk]
  have o5 : R5 x 4 = some (t + 9) := by rw [(e5.1 x (by omega)).2.2, pu_set_at]
  have o4 : R4 x 3 = some (t + 6) := by rw [(e4.1 x (by omega)).2.2, pu_set_at]
  have o3 : R3 x 2 = some (t + 3) := by rw [(e3.1 x (by omega)).2.2, pu_set_at]
  have o2 : R2 x 1 = some t := by rw [(e2.1 x (by omega)).2.2, pu_set_at]
  refine pu_some ⟨K5, _, _, rfl, ?_, fun w hw => ?_, pu_set_at _ _ _ _, fun k hk => ?_, fun r w1 w2 w3 k => ?_⟩
  · have hr : ∀ r, r ≠ x → hp_set R5 x 5 (some (t + 24)) r = R5 r := fun r hx => pu_set_row _ _ _ _ hx
    have ho : ∀ k, k ≠ 5 → hp_set R5 x 5 (some (t + 24)) x k = R5 x k := fun k hk => pu_set_off _ _ _ _ hk
    show sp_X K5 (hp_set R5 x 5 (some (t + 24))) x n
    unfold sp_X
    rw [show sp_t x n = t from ht'.symm]
    refine ⟨k5, h2, ⟨?_, ?_, h5, fun w hw => ?_⟩, ⟨?_, ?_⟩, ⟨?_, ?_⟩, ⟨?_, ?_⟩, ⟨?_, ?_⟩, ⟨pu_set_at _ _ _ _, ?_⟩⟩
    · rw [ho 0 (by decide), z5 0 (by decide), z4 0 (by decide), z3 0 (by decide), z2 0 (by decide), (e1.1 x (by omega)).2.2]
      exact a2
    · rw [cK _ (by omega)]
      exact a3
    · have cR : ∀ r, r ≠ x → r < t → hp_set R5 x 5 (some (t + 24)) r = R r := fun r hx hlt => by rw [hr r hx, d5 r hx (by omega), d4 r hx (by omega), d3 r hx (by omega), d2 r hx (by omega), d1 r hx hlt]
      obtain ⟨b1, b2, -⟩ := a4 w hw
      refine ⟨?_, b2.at (fun r q1 q2 => ⟨cK r (by omega), cR r (by omega) (by omega)⟩)⟩
      rw [cR _ (by omega) (by omega)]
      exact b1
    · rw [ho 1 (by decide), z5 1 (by decide), z4 1 (by decide), z3 1 (by decide)]
      exact o2
    · exact s1.at (fun r q1 q2 => ⟨by rw [(e5.1 r (by omega)).1, (e4.1 r (by omega)).1, (e3.1 r (by omega)).1, (e2.1 r (by omega)).1], by rw [hr r (by omega), d5 r (by omega) (by omega), d4 r (by omega) (by omega), d3 r (by omega) (by omega), d2 r (by omega) (by omega)]⟩)
    · rw [ho 2 (by decide), z5 2 (by decide), z4 2 (by decide)]
      exact o3
    · exact s2.at (fun r q1 q2 => ⟨by rw [(e5.1 r (by omega)).1, (e4.1 r (by omega)).1, (e3.1 r (by omega)).1], by rw [hr r (by omega), d5 r (by omega) (by omega), d4 r (by omega) (by omega), d3 r (by omega) (by omega)]⟩)
    · rw [ho 3 (by decide), z5 3 (by decide)]
      exact o4
    · exact s3.at (fun r q1 q2 => ⟨by rw [(e5.1 r (by omega)).1, (e4.1 r (by omega)).1], by rw [hr r (by omega), d5 r (by omega) (by omega), d4 r (by omega) (by omega)]⟩)
    · rw [ho 4 (by decide)]
      exact o5
    · exact s4.at (fun r q1 q2 => ⟨by rw [(e5.1 r (by omega)).1], by rw [hr r (by omega), d5 r (by omega) (by omega)]⟩)
    · exact s5.at (fun r q1 q2 => ⟨rfl, hr r (by omega)⟩)
  · rw [pu_set_row _ _ _ _ (by omega), cI _ (by omega)]
    exact (a4 w hw).2.2
  · rw [pu_set_off _ _ _ _ hk, cI _ (by omega)]
    exact a5 x (by omega) (fun v hv => by omega) k
  · rw [pu_set_row _ _ _ _ w1]
    by_cases q5 : t + 3 + 3 + 3 + 15 ≤ r
    · exact e5.2 r q5 (by omega) k
    · rw [(e5.1 r (by omega)).2.1]
      by_cases q4 : t + 3 + 3 + 3 ≤ r
      · exact e4.2 r q4 (by omega) k
      · rw [(e4.1 r (by omega)).2.1]
        by_cases q3 : t + 3 + 3 ≤ r
        · exact e3.2 r q3 (by omega) k
        · rw [(e3.1 r (by omega)).2.1]
          by_cases q2 : t + 3 ≤ r
          · exact e2.2 r q2 (by omega) k
          · rw [(e2.1 r (by omega)).2.1]
            by_cases q1 : t ≤ r
            · exact e1.2 r q1 (by omega) k
            · rw [(e1.1 r (by omega)).2.1]
              exact a5 r (by omega) w2 k
/-- the constructor's parts -/
def x_t (fu x : Nat) (v : Int32) : Nat → Nat → hp_S → Option hp_S
  | 0, _, _ => none
  | w + 1, i, z => (ho_gr 6 x 0 z).bind fun r => (ho_ln (4 + 53) r z).bind fun q => if q ≤ nI i then f_X6_init_B52 fu x v z else (ho_gr 6 x 0 z).bind fun r => (f_X4_init fu z.2.2.2 (hp_nw z (4 + 3) 0)).bind fun z1 => (ho_sr 4 r (nI i) z.2.2.2 z1).bind fun z => x_t fu x v w (i + 1) z
theorem x_t_ok (h5 : n ≤ 5) (v : Int32) {Q : hp_S → Prop} (hq : ∀ K' I' R' N', PS x n n K' I' R' N' → pu_ok (f_X6_init_B52 fu x v (K', I', R', N')) Q) : ∀ (s w i : Nat) (K : Nat → Nat × Nat) (I : Nat → Nat → Int32) (R : Nat → Nat → Option Nat) (N : Nat), i + s = n → s < w → PS x n i K I R N → pu_ok (x_t fu x v w i (K, I, R, N)) Q := by
  intro s
  induction s with
  | zero =>
    intro w i K I R N h1 h2 h
    obtain ⟨w, rfl⟩ : ∃ w', w = w' + 1 := ⟨w - 1, by omega⟩
    have : i = n := by omega
    subst this
    rw [x_t, pu_gr h.2.1 h.2.2.1, Option.bind_some, pu_ln h.2.2.2.1, Option.bind_some, if_pos (Int32.le_refl _)]
    exact hq _ _ _ _ h
  | succ s ih =>
    intro w i K I R N h1 h2 h
    obtain ⟨w, rfl⟩ : ∃ w', w = w' + 1 := ⟨w - 1, by omega⟩
    rw [x_t]
    have e1 : ((ho_gr 6 x 0 (K, I, R, N)).bind fun r => (ho_ln (4 + 53) r (K, I, R, N)).bind fun q => if q ≤ nI i then f_X6_init_B52 fu x v (K, I, R, N) else (ho_gr 6 x 0 (K, I, R, N)).bind fun r => (f_X4_init fu N (hp_nw (K, I, R, N) (4 + 3) 0)).bind fun z1 => (ho_sr 4 r (nI i) N z1).bind fun z => x_t fu x v w (i + 1) z) = ((ho_gr 6 x 0 (K, I, R, N)).bind fun r => (f_X4_init fu N (hp_nw (K, I, R, N) (4 + 3) 0)).bind fun z1 => (ho_sr 4 r (nI i) N z1).bind fun z => x_t fu x v w (i + 1) z) := by
      rw [pu_gr h.2.1 h.2.2.1, Option.bind_some, pu_ln h.2.2.2.1, Option.bind_some, if_neg (nI_ge (show i < n by omega) (by omega))]
    refine pu_eq e1 (ps_step h (by omega) h5 rfl ?_)
    intro K' I' R' N' h'
    exact ih w (i + 1) K' I' R' N' (by omega) (by omega) h'
theorem x_init {v : Int32} (h2 : 2 ≤ n) (h5 : n ≤ 5) (hv : (if 2 < (if v < 5 then v else 5) then (if v < 5 then v else 5) else 2) = nI n) {Q : hp_S → Prop} (hq : ∀ K' I' R' N', PS x n n K' I' R' N' → pu_ok (f_X6_init_B52 fu x v (K', I', R', N')) Q) : pu_ok (f_X6_init fu x v (hp_nw (lx_z0 x) (6 + 3) 0)) Q := by
  have e : f_X6_init fu x v (hp_nw (lx_z0 x) (6 + 3) 0) = (ho_na (4 + 53) 5 (if 2 < (if v < 5 then v else 5) then (if v < 5 then v else 5) else 2) (hp_nw (lx_z0 x) (6 + 3) 0)).bind fun r => (ho_pr 6 x 0 r.1 r.2).bind fun z => x_t fu x v 6 0 z := rfl
  rw [e, hv]
  have hz : hp_nw (lx_z0 x) (6 + 3) 0 = (va_up (fun _ => (0, 0)) x (6 + 3, 0), va_up (fun _ _ => 0) x (fun _ => 0), va_up (fun _ _ => none) x (fun _ => none), x + 1) := rfl
  have hcl : (nI n).toNatClampNeg = n := nI_clamp (by omega)
  rw [hz, na_e (by rw [hcl]; intro w; rcases w with w | w; exact nI_pos (by omega) w; omega), Option.bind_some, hcl]
  have k1 : va_up (va_up (fun _ => (0, 0)) x (6 + 3, 0)) (x + 1) (4 + 53, n) x = (6 + 3, 0) := by rw [up_ne _ _ (by omega), up_at]
  simp only [pu_pr k1, Option.bind_some]
  refine x_t_ok h5 v hq n 6 0 _ _ _ _ (by omega) (by omega) ⟨by omega, k1, pu_set_at _ _ _ _, up_at _ _ _, fun w hw => absurd hw (Nat.not_lt_zero _), fun r hr _ k => ?_⟩
  by_cases q1 : r = x + 1
  · rw [q1, up_at]
  · rw [up_ne _ _ q1]
    by_cases q2 : r = x
    · rw [q2, up_at]
    · rw [up_ne _ _ q2]
theorem y_init {v : Int32} (hv : (if 2 ≤ v then (if v ≤ 5 then v else 5) else 2) = nI n) (hfu : 20 ≤ fu) {kk : hp_S → Option β} (h : ∀ K' I' R', (∀ r, r < N → K' r = K r ∧ I' r = I r ∧ R' r = R r) → sp_Y K' R' N → I' N 0 = nI n → (∀ v, v < 5 → I' (N + 1) v = 0 ∧ I' (N + 5) v = 0 ∧ I' (N + 6) v = 96) → (∀ k, k < 14 → I' (N + 7) k = 1) → (I' N 8 = 0 ∧ I' N 9 = 0 ∧ I' N 10 = 0 ∧ I' N 13 = 0 ∧ I' N 19 = 0 ∧ I' N 20 = 0) → pu_ok (kk (K', I', R', N + 16)) P) : pu_ok ((f_X7_init fu N v (hp_nw (K, I, R, N) (7 + 3) 0)).bind kk) P := by
  have e : f_X7_init fu N v (hp_nw (K, I, R, N) (7 + 3) 0) = ini 7 N (fun z => if 2 ≤ v then (if v ≤ 5 then f_X7_init_B141 fu N v v N z else f_X7_init_B141 fu N v 5 N z) else f_X7_init_B141 fu N v 2 N z) [(1, 1, 5, 5), (2, 1, 120, 120), (3, 1, 120, 120), (4, 1, 120, 120), (5, 1, 5, 5), (6, 1, 5, 5), (7, 2, 14, 14), (11, 1, 4, 4), (12, 1, 4, 4), (14, 1, 20, 20), (15, 1, 20, 20), (17, 1, 120, 120), (18, 1, 600, 600), (21, 1, 12300, 12300), (22, 1, 120, 120)] (hp_nw (K, I, R, N) (7 + 3) 0) := rfl
  rw [e]
  refine pu_bind (ob _ rfl ?_)
  intro K' I' R' q1 q2 q3
  have hY : sp_Y K' R' N := ⟨q2, ⟨(q3 0 _ rfl).2, (q3 0 _ rfl).1⟩, ⟨(q3 1 _ rfl).2, (q3 1 _ rfl).1⟩, ⟨(q3 2 _ rfl).2, (q3 2 _ rfl).1⟩, ⟨(q3 3 _ rfl).2, (q3 3 _ rfl).1⟩, ⟨(q3 4 _ rfl).2, (q3 4 _ rfl).1⟩, ⟨(q3 5 _ rfl).2, (q3 5 _ rfl).1⟩, ⟨(q3 6 _ rfl).2, (q3 6 _ rfl).1⟩, ⟨(q3 7 _ rfl).2, (q3 7 _ rfl).1⟩, ⟨(q3 8 _ rfl).2, (q3 8 _ rfl).1⟩, ⟨(q3 9 _ rfl).2, (q3 9 _ rfl).1⟩, ⟨(q3 10 _ rfl).2, (q3 10 _ rfl).1⟩, ⟨(q3 11 _ rfl).2, (q3 11 _ rfl).1⟩, ⟨(q3 12 _ rfl).2, (q3 12 _ rfl).1⟩, ⟨(q3 13 _ rfl).2, (q3 13 _ rfl).1⟩, ⟨(q3 14 _ rfl).2, (q3 14 _ rfl).1⟩⟩
  have e2 : ∀ z, (if 2 ≤ v then (if v ≤ 5 then f_X7_init_B141 fu N v v N z else f_X7_init_B141 fu N v 5 N z) else f_X7_init_B141 fu N v 2 N z) = f_X7_init_B141 fu N v (nI n) N z := fun z => by
    rw [← hv]
    split
    · split
      · rfl
      · rfl
    · rfl
  simp only [e2]
  simp only [f_X7_init_B141, pu_pi hY.k, pu_is hY.k, Option.bind_some]
  refine pu_bind (pu_mono (y_begin hY hfu) ?_)
  rintro _ ⟨I2, rfl, b1, b2, b3, b4, b5⟩
  refine pu_some (h K' I2 R' (fun r hr => ⟨(q1.1 r hr).1, ?_, (q1.1 r hr).2.2⟩) hY ?_ b2 b3 b4)
  · rw [b1 r (by omega) (by omega) (by omega) (by omega) (by omega), pu_set_row _ _ _ _ (by omega)]
    exact (q1.1 r hr).2.1
  · rw [b5 0 (by decide) (by decide) (by decide) (by decide) (by decide) (by decide), pu_set_at]
theorem v_clamp (v : Int32) : ∃ n, 2 ≤ n ∧ n ≤ 5 ∧ (if 2 < (if v < 5 then v else 5) then (if v < 5 then v else 5) else 2) = nI n ∧ (if 2 ≤ v then (if v ≤ 5 then v else 5) else 2) = nI n := by
  by_cases h1 : v < 5
  · rw [if_pos h1]
    by_cases h2 : 2 < v
    · obtain ⟨k, hk, rfl⟩ := in_rng (m := 5) rfl (by decide) ⟨Int32.le_trans (by decide) (Int32.le_of_lt h2), Int32.le_of_lt h1⟩
      have k2 : 2 < k := (nI_ltI (a := 2) (by decide) (by omega)).mp h2
      exact ⟨k, by omega, hk, by rw [if_pos h2], by rw [if_pos (Int32.le_of_lt h2), if_pos (Int32.le_of_lt h1)]⟩
    · rw [if_neg h2]
      refine ⟨2, by decide, by decide, rfl, ?_⟩
      by_cases h3 : 2 ≤ v
      · have : v = 2 := Int32.le_antisymm (Int32.not_lt.mp h2) h3
        subst this
        rfl
      · rw [if_neg h3]
        rfl
  · rw [if_neg h1]
    have h5 : 5 ≤ v := Int32.not_lt.mp h1
    refine ⟨5, by decide, by decide, rfl, ?_⟩
    rw [if_pos (Int32.le_trans (by decide) h5)]
    by_cases h6 : v ≤ 5
    · have : v = 5 := Int32.le_antisymm h6 h5
      subst this
      rfl
    · rw [if_neg h6]
      rfl
end IM
theorem lx_go {fu L N : Nat} {xs : Nat → Int32} (hfu : 12400 ≤ fu) (hL : L ≤ 2561) : pu_ok (f_L_law fu L xs (lx_z0 N)) (fun q => q.1 = 1) := by
  obtain ⟨n, n2, n5, v1, v2⟩ := v_clamp (ho_xc L xs)
  have e : f_L_law fu L xs (lx_z0 N) = (f_X6_init fu N (ho_xc L xs) (hp_nw (lx_z0 N) (6 + 3) 0)).bind fun z => (f_X7_init fu z.2.2.2 (ho_xc L xs) (hp_nw z (7 + 3) 0)).bind fun z1 => f_L_law_L28 fu L xs (f_L_law_B695 fu L xs) fu N z.2.2.2 1 z1 := rfl
  rw [e]
  refine pu_bind (x_init n2 n5 v1 ?_)
  intro K I R N' hP
  refine pu_mono (x_52 hP n2 n5 _) ?_
  rintro _ ⟨K1, I1, R1, rfl, hX, i1, i2, i3, i4⟩
  have ht : sp_t N n = N + 2 + 4 * n := rfl
  refine y_init (N := sp_t N n + 29) v2 (by omega) ?_
  intro K2 I2 R2 f1 hY y0 y1 y2 y3
  have hX2 : sp_X K2 R2 N n := by
    obtain ⟨g1, g2, ⟨g3, g4, g5, g6⟩, ⟨g7, g8⟩, ⟨g9, g10⟩, ⟨g11, g12⟩, ⟨g13, g14⟩, ⟨g15, g16⟩⟩ := hX
    have hx := f1 N (by omega)
    refine ⟨by rw [hx.1]; exact g1, g2, ⟨by rw [hx.2.2]; exact g3, by rw [(f1 (N + 1) (by omega)).1]; exact g4, g5, fun w hw => ?_⟩, ⟨by rw [hx.2.2]; exact g7, g8.at (fun r q1 q2 => ⟨(f1 r (by omega)).1, (f1 r (by omega)).2.2⟩)⟩, ⟨by rw [hx.2.2]; exact g9, g10.at (fun r q1 q2 => ⟨(f1 r (by omega)).1, (f1 r (by omega)).2.2⟩)⟩, ⟨by rw [hx.2.2]; exact g11, g12.at (fun r q1 q2 => ⟨(f1 r (by omega)).1, (f1 r (by omega)).2.2⟩)⟩, ⟨by rw [hx.2.2]; exact g13, g14.at (fun r q1 q2 => ⟨(f1 r (by omega)).1, (f1 r (by omega)).2.2⟩)⟩, ⟨by rw [hx.2.2]; exact g15, g16.at (fun r q1 q2 => ⟨(f1 r (by omega)).1, (f1 r (by omega)).2.2⟩)⟩⟩
    obtain ⟨b1, b2⟩ := g6 w hw
    have b2' : sp_P K1 R1 (N + 2 + 4 * w) := b2
    exact ⟨by rw [(f1 (N + 1) (by omega)).2.2]; exact b1, b2'.at (fun r q1 q2 => ⟨(f1 r (by omega)).1, (f1 r (by omega)).2.2⟩)⟩
  have z0 : ∀ r, sp_t N n ≤ r → r < sp_t N n + 29 → ∀ k, I2 r k = 0 := fun r q1 q2 k => by
    rw [(f1 r (by omega)).2.1]
    exact i4 r (by omega) (fun v hv => by omega) q2 k
  have hV : rl_V N (sp_t N n + 29) (K2, I2, R2, sp_t N n + 29 + 16) := by
    refine ⟨K2, I2, R2, _, n, rl_d0, 16383, 0, 0, 0, _, _, 0, _, _, rfl, rl_W0 hX2 hY rfl (fun v hv => ?_) y0 y1 ?_ y2 y3 ⟨z0 _ (by omega) (by omega) _, z0 _ (by omega) (by omega) _⟩ ⟨0, fun _ => 0, z0 _ (by omega) (by omega) _, by omega, fun j hj => absurd hj (Nat.not_lt_zero _), fun i j _ hj => absurd hj (Nat.not_lt_zero _), fun q => ⟨?_, ?_⟩⟩ ⟨z0 _ (by omega) (by omega) _, z0 _ (by omega) (by omega) _, z0 _ (by omega) (by omega) _⟩ (fun k _ => z0 _ (by omega) (by omega) k)⟩
    · rw [(f1 _ (by omega)).2.1]
      exact i1 v hv
    · rw [(f1 N (by omega)).2.1]
      exact ⟨i2, i3 7 (by decide), i3 8 (by decide)⟩
    · unfold sp_isM
      rw [if_pos rfl]
      rintro ⟨v, _, i, hi, _⟩
      exact absurd hi (Nat.not_lt_zero _)
    · rintro ⟨j, hj, _⟩
      exact absurd hj (Nat.not_lt_zero _)
  exact lw_loop hfu hL 600 fu 1 _ (by omega) (by omega) (by omega) hV
theorem lx_pure_ok : lx_pure := by
  intro L N xs hL
  obtain ⟨⟨v, z⟩, e, hv⟩ := lx_go (fu := 12400) (N := N) (xs := xs) (Nat.le_refl _) hL
  have hv' : v = 1 := hv
  subst hv'
  exact ⟨12400, z, e⟩
