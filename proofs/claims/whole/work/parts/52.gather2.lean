def gt_sum (f : Nat → Nat) : Nat → Nat
  | 0 => 0
  | k + 1 => gt_sum f k + f k
theorem gt_sum_le {f g : Nat → Nat} : ∀ n, (∀ v, v < n → f v ≤ g v) → gt_sum f n ≤ gt_sum g n
  | 0, _ => Nat.le_refl _
  | n + 1, h => Nat.add_le_add (gt_sum_le n (fun v hv => h v (by omega))) (h n (by omega))
theorem gt_sum_lt {f g : Nat → Nat} : ∀ n, (∀ v, v < n → f v ≤ g v) → (∃ v, v < n ∧ f v < g v) → gt_sum f n < gt_sum g n
  | 0, _, ⟨v, h, _⟩ => absurd h (by omega)
  | n + 1, h, ⟨v, hv, hlt⟩ => by
    show gt_sum f n + f n < gt_sum g n + g n
    have h1 := gt_sum_le n (fun v hv => h v (by omega))
    have h2 := h n (by omega)
    rcases Nat.lt_or_ge v n with h' | h'
    · have := gt_sum_lt n (fun v hv => h v (by omega)) ⟨v, h', hlt⟩
      omega
    · have : v = n := by omega
      subst this
      omega
theorem gt_sum_bd {f : Nat → Nat} {m : Nat} : ∀ n, (∀ v, v < n → f v ≤ m) → gt_sum f n ≤ m * n
  | 0, _ => Nat.zero_le _
  | n + 1, h => by
    have h1 := gt_sum_bd n (fun v hv => h v (by omega))
    have h2 := h n (by omega)
    show gt_sum f n + f n ≤ m * (n + 1)
    rw [Nat.mul_succ]
    omega
section GT2
variable {K : Nat → Nat × Nat} {I : Nat → Nat → Int32} {R : Nat → Nat → Option Nat} {N fu a n t p s e : Nat} {P : Nat → Nat} {sz hd : Nat → Nat} {tm : Nat → Nat → Nat}
theorem gt_fill {v : Int32} (h : K a = (1, n)) (hn : n < fu) (hn2 : n < 2 ^ 31) : pu_ok (f_J7_fill fu a v (K, I, R, N)) (fun z => ∃ I', z = (K, I', R, N) ∧ (∀ j, j < n → I' a j = v) ∧ ∀ b, b ≠ a → I' b = I b) := by
  simp only [f_J7_fill, pu_ln h, Option.bind_some]
  refine pu_for (fun m i z => f_J7_fill_L5 fu a v (f_J7_fill_B20 fu a v) m i (nI n) z) (fun z => f_J7_fill_B20 fu a v z) (fun i z => ∃ I', z = (K, I', R, N) ∧ (∀ j, j < i → I' a j = v) ∧ ∀ b, b ≠ a → I' b = I b) n
    (fun m z _ hk => ?_) (fun m i z hi hI ih => ?_) (fun z hI => ?_) fu 0 (K, I, R, N) (Nat.zero_le _) (by omega) ⟨I, rfl, fun j hj => absurd hj (by omega), fun _ _ => rfl⟩
  · show pu_ok (f_J7_fill_L5 _ _ _ _ _ _ _ _) _
    simp only [f_J7_fill_L5]
    rw [if_pos (Int32.le_refl _)]
    exact hk
  · obtain ⟨I', rfl, h1, h2⟩ := hI
    show pu_ok (f_J7_fill_L5 _ _ _ _ _ _ _ _) _
    simp only [f_J7_fill_L5]
    rw [if_neg (nI_ge hi hn2), pu_si h hi hn2]
    simp only [Option.bind_some, ho_id, nI_1]
    refine ih _ ⟨_, rfl, fun j hj => ?_, fun b hb => by rw [pu_set_row _ _ _ _ hb]; exact h2 b hb⟩
    rw [pu_set]
    simp only [if_true]
    by_cases hj' : j = i
    · rw [if_pos hj']
    · rw [if_neg hj']
      exact h1 j (by omega)
  · exact pu_some hI
set_option maxHeartbeats 1000000 in
theorem gt_pass (hA : sp_A K R a n P) (hT : sp_T K R t) (hsep : ∀ v, v < n → P v + 4 ≤ t) (hE : sp_E I P n sz tm) (hH : ∀ v, v < n → I (t + 2) v = nI (hd v) ∧ hd v ≤ sz v) (he : e < 1000) (hfu : 10 ≤ fu) :
    pu_ok (f_X5_passHeads fu t a (nI e) (K, I, R, N)) (fun z => ∃ I', z = (K, I', R, N) ∧ (∀ b, b ≠ t + 2 → I' b = I b) ∧ ∀ v, v < n → I' (t + 2) v = nI (if hd v < sz v ∧ tm v (hd v) = e then hd v + 1 else hd v)) := by
  have h5 := hA.2.1
  refine pu_for (fun m i z => f_X5_passHeads_L2 fu t a (nI e) (f_X5_passHeads_B56 fu t a (nI e)) m i z) (fun z => f_X5_passHeads_B56 fu t a (nI e) z)
    (fun i z => ∃ I', z = (K, I', R, N) ∧ (∀ b, b ≠ t + 2 → I' b = I b) ∧ (∀ v, v < i → I' (t + 2) v = nI (if hd v < sz v ∧ tm v (hd v) = e then hd v + 1 else hd v)) ∧ ∀ v, i ≤ v → v < n → I' (t + 2) v = nI (hd v)) n
    (fun m z hI hk => ?_) (fun m i z hi hI ih => ?_) (fun z hI => ?_) fu 0 (K, I, R, N) (Nat.zero_le _) (by omega) ⟨I, rfl, fun _ _ => rfl, fun v hv => absurd hv (by omega), fun v _ hv => (hH v hv).1⟩
  · show pu_ok (f_X5_passHeads_L2 _ _ _ _ _ _ _ _) _
    simp only [f_X5_passHeads_L2, Option.bind_some]
    obtain ⟨I', rfl, -⟩ := hI
    rw [pu_ln hA.1, Option.bind_some, if_pos (Int32.le_refl _)]
    exact hk
  · obtain ⟨I', rfl, h1, h2, h3⟩ := hI
    show pu_ok (f_X5_passHeads_L2 _ _ _ _ _ _ _ _) _
    obtain ⟨hr, hp⟩ := hA.2.2 i hi
    have hs := hsep i hi
    have hE' : sp_E I' P n sz tm := hE.keep (fun v hv => by have := hsep v hv; exact ⟨h1 _ (by omega), h1 _ (by omega)⟩)
    obtain ⟨g1, g2, g3, -⟩ := hE' i hi
    have g6 := (hH i hi).2
    have q1 : ho_li 1 (t + 2) (nI i) (K, I', R, N) = some (nI (hd i)) := by rw [pu_li hT.2.2.2.2 (by omega) (by decide), h3 i (Nat.le_refl _) hi]
    have q2 : ho_lr 4 a (nI i) (K, I', R, N) = some (P i) := pu_lr hA.1 hi (by omega) hr
    simp only [f_X5_passHeads_L2, f_X5_passHeads_B50, pu_ln hA.1, Option.bind_some, pu_gr hT.1 hT.2.2.1, q1, q2, pu_gi hp.1, g1, pu_gr hp.1 hp.2.1, ho_id]
    rw [if_neg (nI_ge hi (by omega)), nI_1]
    by_cases hc : sz i ≤ hd i
    · rw [if_pos (nI_le hc (by omega))]
      refine ih _ ⟨I', rfl, h1, fun v hv => ?_, fun v hv hv2 => h3 v (by omega) hv2⟩
      rcases Nat.lt_or_ge v i with h' | h'
      · exact h2 v h'
      · have : v = i := by omega
        subst this
        rw [if_neg (by omega)]
        exact h3 v (Nat.le_refl _) hi
    · rw [if_neg (nI_ge (by omega) (by omega))]
      obtain ⟨g7, g8⟩ := g3 (hd i) (by omega)
      rw [pu_li hp.2.2.2.2.1 (by omega) (by decide), g7]
      simp only [Option.bind_some]
      by_cases hm : tm i (hd i) = e
      · rw [if_pos (by rw [hm]), nI_1, pu_si hT.2.2.2.2 (by omega) (by decide)]
        simp only [Option.bind_some]
        refine ih _ ⟨_, rfl, fun b hb => by rw [pu_set_row _ _ _ _ hb]; exact h1 b hb, fun v hv => ?_, fun v hv hv2 => ?_⟩
        · rw [pu_set]
          simp only [if_true]
          by_cases hv' : v = i
          · subst hv'
            rw [if_pos rfl, if_pos ⟨by omega, hm⟩]
          · rw [if_neg hv']
            exact h2 v (by omega)
        · rw [pu_set]
          simp only [if_true]
          rw [if_neg (by omega)]
          exact h3 v (by omega) hv2
      · rw [if_neg (fun q => hm ((nI_eq (by omega) (by omega)).mp q))]
        refine ih _ ⟨I', rfl, h1, fun v hv => ?_, fun v hv hv2 => h3 v (by omega) hv2⟩
        rcases Nat.lt_or_ge v i with h' | h'
        · exact h2 v h'
        · have : v = i := by omega
          subst this
          rw [if_neg (fun q => hm q.2)]
          exact h3 v (Nat.le_refl _) hi
  · obtain ⟨I', rfl, h1, h2, -⟩ := hI
    exact pu_some ⟨I', rfl, h1, h2⟩
end GT2
