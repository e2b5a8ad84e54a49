/-! THE TIMELINE of the class: gather. Shapes first. -/
def sp_P (K : Nat → Nat × Nat) (R : Nat → Nat → Option Nat) (p : Nat) : Prop := K p = (4 + 3, 0) ∧ R p 0 = some (p + 1) ∧ R p 1 = some (p + 2) ∧ R p 2 = some (p + 3) ∧ K (p + 1) = (1, 24) ∧ K (p + 2) = (1, 24) ∧ K (p + 3) = (1, 24)
def sp_A (K : Nat → Nat × Nat) (R : Nat → Nat → Option Nat) (a n : Nat) (P : Nat → Nat) : Prop := K a = (4 + 53, n) ∧ n ≤ 5 ∧ ∀ v, v < n → R a v = some (P v) ∧ sp_P K R (P v)
def sp_T (K : Nat → Nat × Nat) (R : Nat → Nat → Option Nat) (t : Nat) : Prop := K t = (5 + 3, 0) ∧ R t 0 = some (t + 1) ∧ R t 2 = some (t + 2) ∧ K (t + 1) = (1, 120) ∧ K (t + 2) = (1, 5)
/-- the times of the events: sz of a voice, tm of a voice's event -/
def sp_E (I : Nat → Nat → Int32) (P : Nat → Nat) (n : Nat) (sz : Nat → Nat) (tm : Nat → Nat → Nat) : Prop := ∀ v, v < n → I (P v) 3 = nI (sz v) ∧ sz v ≤ 24 ∧ (∀ i, i < sz v → I (P v + 1) i = nI (tm v i) ∧ tm v i < 1000) ∧ ∀ i j, i < j → j < sz v → tm v i < tm v j
theorem sp_E.keep {I I' : Nat → Nat → Int32} {P : Nat → Nat} {n : Nat} {sz : Nat → Nat} {tm : Nat → Nat → Nat} (h : sp_E I P n sz tm) (hk : ∀ v, v < n → I' (P v) = I (P v) ∧ I' (P v + 1) = I (P v + 1)) : sp_E I' P n sz tm := by
  intro v hv
  rw [(hk v hv).1, (hk v hv).2]
  exact h v hv
section GT
variable {K : Nat → Nat × Nat} {I : Nat → Nat → Int32} {R : Nat → Nat → Option Nat} {N fu a n t p s : Nat} {P : Nat → Nat} {sz hd : Nat → Nat} {tm : Nat → Nat → Nat}
theorem gt_last (hp : sp_P K R p) (hs : I p 3 = nI s) (h24 : s ≤ 24) : f_X4_lastTime fu p (K, I, R, N) = some (if s = 0 then (-1) else I (p + 1) (s - 1), (K, I, R, N)) := by
  simp only [f_X4_lastTime, f_X4_lastTime_B22, pu_gi hp.1, pu_gr hp.1 hp.2.1, Option.bind_some, hs]
  cases s with
  | zero => simp [nI_0]
  | succ k =>
    rw [if_neg (nI_nle (by omega) (by omega)), nI_pred, pu_li hp.2.2.2.2.1 (by omega) (by decide)]
    simp
set_option maxHeartbeats 1000000 in
theorem gt_early (hA : sp_A K R a n P) (hT : sp_T K R t) (hE : sp_E I P n sz tm) (hH : ∀ v, v < n → I (t + 2) v = nI (hd v) ∧ hd v ≤ sz v) (hfu : 10 ≤ fu) :
    ∃ e, f_X5_earliestHead fu t a (K, I, R, N) = some (nI e, (K, I, R, N)) ∧ e ≤ 1000 ∧ (∀ v, v < n → hd v < sz v → e ≤ tm v (hd v)) ∧ (e = 1000 ∨ ∃ v, v < n ∧ hd v < sz v ∧ e = tm v (hd v)) := by
  have h5 := hA.2.1
  have key := pu_for (P := fun r : Int32 × hp_S => ∃ e, r = (nI e, (K, I, R, N)) ∧ e ≤ 1000 ∧ (∀ v, v < n → hd v < sz v → e ≤ tm v (hd v)) ∧ (e = 1000 ∨ ∃ v, v < n ∧ hd v < sz v ∧ e = tm v (hd v)))
    (fun m i w => f_X5_earliestHead_L6 fu t a (f_X5_earliestHead_B51 fu t a) m w i (K, I, R, N)) (fun w => f_X5_earliestHead_B51 fu t a w (K, I, R, N))
    (fun i w => ∃ e, w = nI e ∧ e ≤ 1000 ∧ (∀ v, v < i → hd v < sz v → e ≤ tm v (hd v)) ∧ (e = 1000 ∨ ∃ v, v < i ∧ hd v < sz v ∧ e = tm v (hd v))) n
    (fun m w _ hk => by
      show pu_ok (f_X5_earliestHead_L6 _ _ _ _ _ _ _ _) _
      simp only [f_X5_earliestHead_L6, pu_ln hA.1, Option.bind_some]
      rw [if_pos (Int32.le_refl _)]
      exact hk)
    (fun m i w hi hI ih => by
      obtain ⟨e, rfl, e1, e2, e3⟩ := hI
      show pu_ok (f_X5_earliestHead_L6 _ _ _ _ _ _ _ _) _
      obtain ⟨hr, hp⟩ := hA.2.2 i hi
      obtain ⟨g1, g2, g3, -⟩ := hE i hi
      obtain ⟨g5, g6⟩ := hH i hi
      have q1 : ho_li 1 (t + 2) (nI i) (K, I, R, N) = some (nI (hd i)) := by rw [pu_li hT.2.2.2.2 (by omega) (by decide), g5]
      have q2 : ho_lr 4 a (nI i) (K, I, R, N) = some (P i) := pu_lr hA.1 hi (by omega) hr
      simp only [f_X5_earliestHead_L6, f_X5_earliestHead_B45, pu_ln hA.1, Option.bind_some, pu_gr hT.1 hT.2.2.1, q1, q2, pu_gi hp.1, g1, pu_gr hp.1 hp.2.1, ho_id]
      rw [if_neg (nI_ge hi (by omega)), nI_1]
      by_cases hc : sz i ≤ hd i
      · rw [if_pos (nI_le hc (by omega))]
        refine ih (nI e) ⟨e, rfl, e1, fun v hv h => ?_, e3.imp id (fun ⟨v, h1, h2⟩ => ⟨v, by omega, h2⟩)⟩
        rcases Nat.lt_or_ge v i with h' | h'
        · exact e2 v h' h
        · have : v = i := by omega
          subst this
          omega
      · rw [if_neg (nI_ge (by omega) (by omega))]
        obtain ⟨g7, g8⟩ := g3 (hd i) (by omega)
        rw [pu_li hp.2.2.2.2.1 (by omega) (by decide), g7]
        simp only [Option.bind_some]
        by_cases hm : tm i (hd i) < e
        · rw [if_pos (nI_lt hm (by omega))]
          refine ih _ ⟨_, rfl, by omega, fun v hv h => ?_, Or.inr ⟨i, by omega, by omega, rfl⟩⟩
          rcases Nat.lt_or_ge v i with h' | h'
          · have := e2 v h' h
            omega
          · have : v = i := by omega
            subst this
            exact Nat.le_refl _
        · rw [if_neg (nI_nlt (by omega) (by omega))]
          refine ih _ ⟨e, rfl, e1, fun v hv h => ?_, e3.imp id (fun ⟨v, h1, h2⟩ => ⟨v, by omega, h2⟩)⟩
          rcases Nat.lt_or_ge v i with h' | h'
          · exact e2 v h' h
          · have : v = i := by omega
            subst this
            omega)
    (fun w hI => by
      obtain ⟨e, rfl, h⟩ := hI
      exact pu_some ⟨e, rfl, h⟩)
    fu 0 1000 (Nat.zero_le _) (by omega) ⟨1000, rfl, Nat.le_refl _, fun v h => absurd h (by omega), Or.inl rfl⟩
  obtain ⟨r, h1, e, rfl, h2⟩ := key
  exact ⟨e, h1, h2⟩
end GT
