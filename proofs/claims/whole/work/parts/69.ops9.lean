/-! range -/
def rg_f (d : rl_D) (v : Nat) (a b : Int32) (i : Nat) : Bool := decide (d.2.2.1 v i ≠ -1 ∧ ¬ (a ≤ ht_N (d.2.2.1 v i).toNatClampNeg (d.2.2.2.1 v i) ∧ ht_N (d.2.2.1 v i).toNatClampNeg (d.2.2.2.1 v i) ≤ b))
def rg_d (d : rl_D) (v : Nat) (a b : Int32) : rl_D := (d.1, d.2.1, d.2.2.1, d.2.2.2.1, fun u => if u = v then a else d.2.2.2.2.1 u, fun u => if u = v then b else d.2.2.2.2.2 u)
theorem rg_step {d : rl_D} {v i : Nat} {a b : Int32} : rg_c (rg_f d v a b) (i + 1) = rg_c (rg_f d v a b) i + (if rg_f d v a b i then 1 else 0) := rfl
section OP9
variable {K : Nat → Nat × Nat} {I I' : Nat → Nat → Int32} {R : Nat → Nat → Option Nat} {N fu x y n p : Nat} {d d' : rl_D} {rb ky : Int32} {g rc : Nat} {rf rt : Nat → Nat} {xc : Nat} {xk xt : Nat → Nat}
theorem rg_x (hp : sp_P K R p) {v : Nat} (h24 : d.1 v ≤ 24) (hs : I p 3 = nI (d.1 v)) (he : ∀ i, i < d.1 v → I (p + 2) i = d.2.2.1 v i ∧ I (p + 3) i = d.2.2.2.1 v i ∧ sp_note (d.2.2.1 v i) (d.2.2.2.1 v i)) : ∀ (m i : Nat), i ≤ d.1 v → d.1 v - i < m → f_X4_notesOutside_L4 fu p (f_X4_notesOutside_B41 fu p) m (nI (rg_c (rg_f d v (I p 4) (I p 5)) i)) (nI i) (K, I, R, N) = some (nI (rg_c (rg_f d v (I p 4) (I p 5)) (d.1 v)), (K, I, R, N)) := by
  intro m
  induction m with
  | zero => intro i h1 h2; omega
  | succ m ih =>
    intro i h1 h2
    simp only [f_X4_notesOutside_L4, f_X4_notesOutside_B35, pu_gi hp.1, hs, Option.bind_some, pu_is hp.1, ho_id, nI_1]
    by_cases hc : d.1 v ≤ i
    · rw [if_pos (nI_le hc (by omega))]
      have : i = d.1 v := by omega
      rw [this]
      rfl
    · rw [if_neg (nI_ge (by omega) (by omega)), pa_isNote hp (by omega)]
      obtain ⟨e1, e2, e3⟩ := he i (by omega)
      simp only [Option.bind_some, e1]
      have hst := rg_step (d := d) (v := v) (i := i) (a := I p 4) (b := I p 5)
      have nx := ih (i + 1) (by omega) (by omega)
      by_cases hr : d.2.2.1 v i = -1
      · rw [if_pos hr, if_pos rfl]
        have hf : rg_f d v (I p 4) (I p 5) i = false := decide_eq_false (fun q => q.1 hr)
        rw [hf, if_neg (by decide), Nat.add_zero] at hst
        rw [hst] at nx
        exact nx
      · rw [if_neg hr, if_neg (by decide : ¬ (1 : Int32) = 0)]
        obtain ⟨k, k1, k2⟩ := e3.cases hr
        rw [ht_x hp (by omega) k1 (e1.trans k2)]
        simp only [Option.bind_some, pu_is hp.1, ht_out hp, e2]
        have hk : (d.2.2.1 v i).toNatClampNeg = k := by rw [k2, nI_clamp (by omega)]
        by_cases hin : I p 4 ≤ ht_N k (d.2.2.2.1 v i) ∧ ht_N k (d.2.2.2.1 v i) ≤ I p 5
        · rw [if_pos hin, if_pos rfl]
          have hf : rg_f d v (I p 4) (I p 5) i = false := decide_eq_false (fun q => q.2 (by rw [hk]; exact hin))
          rw [hf, if_neg (by decide), Nat.add_zero] at hst
          rw [hst] at nx
          exact nx
        · rw [if_neg hin, if_neg (by decide : ¬ (1 : Int32) = 0)]
          have hf : rg_f d v (I p 4) (I p 5) i = true := decide_eq_true ⟨hr, by rw [hk]; exact hin⟩
          rw [hf, if_pos rfl] at hst
          rw [hst] at nx
          exact nx
theorem rg_y (hY : sp_Y K R y) {v : Nat} (hv : v < 5) (h24 : d.1 v ≤ 24) (hs : I (y + 1) v = nI (d.1 v)) (a b : Int32) (he : ∀ i, i < d.1 v → I (y + 3) (24 * v + i) = d.2.2.1 v i ∧ I (y + 4) (24 * v + i) = d.2.2.2.1 v i ∧ sp_note (d.2.2.1 v i) (d.2.2.2.1 v i)) : ∀ (m i : Nat), i ≤ d.1 v → d.1 v - i < m → f_X7_range_L52 fu y (nI v) a b (f_X7_range_B113 fu y (nI v) a b) m (nI (rg_c (rg_f d v a b) i)) (nI i) (K, I, R, N) = some (nI (rg_c (rg_f d v a b) (d.1 v)), (K, I, R, N)) := by
  intro m
  induction m with
  | zero => intro i h1 h2; omega
  | succ m ih =>
    intro i h1 h2
    simp only [f_X7_range_L52, f_X7_range_B103, f_X7_range_B104, pu_gr hY.k hY.f1.1, pu_gr hY.k hY.f3.1, pu_li hY.f1.2 hv (by decide), hs, Option.bind_some, pu_is hY.k, ho_id, nI_1, lr_ix]
    by_cases hc : d.1 v ≤ i
    · rw [if_pos (nI_le hc (by omega))]
      have : i = d.1 v := by omega
      rw [this]
      rfl
    · obtain ⟨e1, e2, e3⟩ := he i (by omega)
      rw [if_neg (nI_ge (by omega) (by omega)), pu_li hY.f3.2 (by omega) (by decide), e1]
      simp only [Option.bind_some]
      have hst := rg_step (d := d) (v := v) (i := i) (a := a) (b := b)
      have nx := ih (i + 1) (by omega) (by omega)
      by_cases hr : d.2.2.1 v i = -1
      · rw [if_pos hr, Int32.add_zero]
        have hf : rg_f d v a b i = false := decide_eq_false (fun q => q.1 hr)
        rw [hf, if_neg (by decide), Nat.add_zero] at hst
        rw [hst] at nx
        exact nx
      · rw [if_neg hr]
        obtain ⟨k, k1, k2⟩ := e3.cases hr
        rw [ht_y hY (by omega) k1 (e1.trans k2), Option.bind_some, e2]
        simp only [in_y, Option.bind_some, in_ite]
        have hk : (d.2.2.1 v i).toNatClampNeg = k := by rw [k2, nI_clamp (by omega)]
        by_cases hin : a ≤ ht_N k (d.2.2.2.1 v i) ∧ ht_N k (d.2.2.2.1 v i) ≤ b
        · rw [if_pos hin, Int32.add_zero]
          have hf : rg_f d v a b i = false := decide_eq_false (fun q => q.2 (by rw [hk]; exact hin))
          rw [hf, if_neg (by decide), Nat.add_zero] at hst
          rw [hst] at nx
          exact nx
        · rw [if_neg hin]
          have hf : rg_f d v a b i = true := decide_eq_true ⟨hr, by rw [hk]; exact hin⟩
          rw [hf, if_pos rfl] at hst
          rw [hst] at nx
          exact nx
theorem op_range (h : rl_W K I R x y n d rb ky g rc rf rt xc xk xt) (v a b : Int32) (hfu : 100 ≤ fu) : pu_ok (f_X6_range fu x v a b (K, I, R, N)) (fun r => pu_ok (f_X7_range fu y v a b r.2) (fun q => r.1 = q.1 ∧ rl_V x y q.2)) := by
  obtain ⟨a1, a2, a3, a4, a5, a6, a7, a8, a9, a10, a11⟩ := id h
  have ht : sp_t x n = x + 2 + 4 * n := rfl
  have h2 := a1.n2
  have h5 := a1.n5
  have hV : rl_V x y (K, I, R, N) := ⟨K, I, R, N, n, d, rb, ky, g, rc, rf, rt, xc, xk, xt, rfl, h⟩
  have hy0 : ¬ ((0 ≤ v ∧ v ≤ nI (n - 1)) ∧ (-2 ≤ a ∧ a ≤ 99) ∧ (a ≤ b ∧ b ≤ 99)) → f_X7_range fu y v a b (K, I, R, N) = some (-2, (K, I, R, N)) := by
    intro hq
    simp only [f_X7_range, f_X7_range_B29, pu_is a2.k, in_yv a2 a6.1 h2, in_y, in_ite, Option.bind_some]
    by_cases c1 : 0 ≤ v ∧ v ≤ nI (n - 1)
    · rw [if_pos c1]
      by_cases c2 : -2 ≤ a ∧ a ≤ 99
      · rw [if_pos c2, if_neg (fun c3 => hq ⟨c1, c2, c3⟩)]
      · rw [if_neg c2]
    · rw [if_neg c1]
  have hbad : ¬ ((0 ≤ v ∧ v ≤ nI (n - 1)) ∧ (-2 ≤ a ∧ a ≤ 99) ∧ (a ≤ b ∧ b ≤ 99)) → pu_ok (some ((-2 : Int32), ((K, I, R, N) : hp_S))) (fun r => pu_ok (f_X7_range fu y v a b r.2) (fun q => r.1 = q.1 ∧ rl_V x y q.2)) := fun hq => pu_some (by simp only; rw [hy0 hq]; exact pu_some ⟨rfl, hV⟩)
  simp only [f_X6_range, f_X6_range_B35, pu_is a1.k, in_xv a1, in_x, in_ite, Option.bind_some]
  by_cases c1 : 0 ≤ v ∧ v ≤ nI (n - 1)
  · rw [if_pos c1]
    by_cases c2 : -2 ≤ a ∧ a ≤ 99
    · rw [if_pos c2]
      by_cases c3 : -2 ≤ b ∧ b ≤ 99
      · rw [if_pos c3]
        by_cases c4 : a ≤ b
        · rw [if_pos c4]
          obtain ⟨k, k1, rfl⟩ := in_rng rfl (by omega) c1
          have hk : k < n := by omega
          obtain ⟨hr, hp⟩ := a1.p hk
          obtain ⟨e1, e2, e3, e4⟩ := a5 k hk
          obtain ⟨f1, f2, f3, f4⟩ := a6.2 k hk
          have o1 := (a4.1 k hk).1
          have q2 : ho_lr 4 (x + 1) (nI k) (K, I, R, N) = some (x + 2 + 4 * k) := pu_lr a1.a.2.1 hk (by omega) hr
          simp only [pu_gr a1.k a1.a.1, q2, pu_pi hp.1, pu_is hp.1, Option.bind_some, f_X4_notesOutside]
          generalize hI1 : hp_set (hp_set I (x + 2 + 4 * k) 4 a) (x + 2 + 4 * k) 5 b = I1
          have g1 : ∀ c, c ≠ x + 2 + 4 * k → I1 c = I c := fun c hc => by rw [← hI1, pu_set_row _ _ _ _ hc, pu_set_row _ _ _ _ hc]
          have g2 : I1 (x + 2 + 4 * k) 4 = a := by rw [← hI1, pu_set_off _ _ _ _ (by decide), pu_set_at]
          have g3 : I1 (x + 2 + 4 * k) 5 = b := by rw [← hI1, pu_set_at]
          have g4 : I1 (x + 2 + 4 * k) 3 = nI (d.1 k) := by rw [← hI1, pu_set_off _ _ _ _ (by decide), pu_set_off _ _ _ _ (by decide)]; exact e1
          have key := rg_x (d := d) (v := k) (fu := fu) (N := N) (I := I1) hp o1 g4 (fun i hi => by rw [g1 _ (by omega), g1 _ (by omega)]; exact ⟨(e4 i hi).2.1, (e4 i hi).2.2, a4.2 k hk i hi⟩) fu 0 (Nat.zero_le _) (by omega)
          rw [g2, g3, show rg_c (rg_f d k a b) 0 = 0 from rfl, nI_0] at key
          rw [key]
          simp only [Option.bind_some]
          refine pu_some ?_
          have hyI : I1 y 0 = nI n := by rw [g1 y (by omega)]; exact a6.1
          simp only [f_X7_range, pu_is a2.k, in_yv a2 hyI h2, in_y, in_ite, Option.bind_some]
          rw [if_pos c1, if_pos c2, if_pos ⟨c4, c3.2⟩, pu_gr a2.k a2.f5.1, Option.bind_some, pu_si a2.f5.2 (by omega) (by decide), Option.bind_some, pu_gr a2.k a2.f6.1, Option.bind_some, pu_si a2.f6.2 (by omega) (by decide), Option.bind_some]
          generalize hI2 : hp_set (hp_set I1 (y + 5) k a) (y + 6) k b = I2
          have l1 : ∀ c, c ≠ y + 5 → c ≠ y + 6 → I2 c = I1 c := fun c q1 q2 => by rw [← hI2, pu_set_row _ _ _ _ q2, pu_set_row _ _ _ _ q1]
          have key2 := rg_y (d := d) (v := k) (fu := fu) (N := N) (I := I2) a2 (by omega) o1 (by rw [l1 _ (by omega) (by omega), g1 _ (by omega)]; exact f1) a b (fun i hi => by rw [l1 _ (by omega) (by omega), l1 _ (by omega) (by omega), g1 _ (by omega), g1 _ (by omega)]; exact ⟨(f4 i hi).2.1, (f4 i hi).2.2, a4.2 k hk i hi⟩) fu 0 (Nat.zero_le _) (by omega)
          rw [show rg_c (rg_f d k a b) 0 = 0 from rfl, nI_0] at key2
          rw [key2]
          refine pu_some ⟨rfl, K, I2, R, N, n, rg_d d k a b, rb, ky, g, rc, rf, rt, xc, xk, xt, rfl, h.ev (d' := rg_d d k a b) a4 (fun u hu => ?_) ⟨by rw [l1 _ (by omega) (by omega)]; exact hyI, fun u hu => ?_⟩ (a10.keep (by rw [l1 _ (by omega) (by omega), g1 _ (by omega)]) (by rw [l1 _ (by omega) (by omega), g1 _ (by omega)])) (fun c q1 q2 => by rw [l1 _ (by omega) (by omega), g1 _ (by omega)])⟩
          · obtain ⟨w1, w2, w3, w4⟩ := a5 u hu
            rw [l1 _ (by omega) (by omega), l1 (x + 2 + 4 * u + 1) (by omega) (by omega), l1 (x + 2 + 4 * u + 2) (by omega) (by omega), l1 (x + 2 + 4 * u + 3) (by omega) (by omega), g1 (x + 2 + 4 * u + 1) (by omega), g1 (x + 2 + 4 * u + 2) (by omega), g1 (x + 2 + 4 * u + 3) (by omega)]
            simp only [rg_d]
            by_cases hq : u = k
            · subst hq
              simp only [if_true]
              exact ⟨g4, g2, g3, w4⟩
            · simp only [if_neg hq]
              rw [g1 _ (by omega)]
              exact ⟨w1, w2, w3, w4⟩
          · obtain ⟨w1, w2, w3, w4⟩ := a6.2 u hu
            rw [l1 (y + 1) (by omega) (by omega), l1 (y + 2) (by omega) (by omega), l1 (y + 3) (by omega) (by omega), l1 (y + 4) (by omega) (by omega), g1 (y + 1) (by omega), g1 (y + 2) (by omega), g1 (y + 3) (by omega), g1 (y + 4) (by omega)]
            refine ⟨w1, ?_, ?_, w4⟩
            · rw [← hI2, pu_set_row _ _ _ _ (by omega), pu_set]
              simp only [if_true, rg_d]
              by_cases hq : u = k
              · rw [if_pos hq, if_pos hq]
              · rw [if_neg hq, if_neg hq, g1 _ (by omega)]
                exact w2
            · rw [← hI2, pu_set]
              simp only [if_true, rg_d]
              by_cases hq : u = k
              · rw [if_pos hq, if_pos hq]
              · rw [if_neg hq, if_neg hq, pu_set_row _ _ _ _ (by omega), g1 _ (by omega)]
                exact w3
        · rw [if_neg c4]
          exact hbad (fun q => c4 q.2.2.1)
      · rw [if_neg c3]
        exact hbad (fun q => c3 ⟨Int32.le_trans q.2.1.1 q.2.2.1, q.2.2.2⟩)
    · rw [if_neg c2]
      exact hbad (fun q => c2 q.2.1)
  · rw [if_neg c1]
    exact hbad (fun q => c1 q.1)
end OP9
