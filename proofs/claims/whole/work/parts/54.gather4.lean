section GT4
variable {K : Nat → Nat × Nat} {I : Nat → Nat → Int32} {R : Nat → Nat → Option Nat} {N fu a n t g : Nat} {P : Nat → Nat} {sz : Nat → Nat} {tm : Nat → Nat → Nat}
set_option maxHeartbeats 2000000 in
theorem gt_grid2 (hT : sp_T K R t) (hg : 10 ≤ g) (hg2 : g ≤ 500) {x2 : Int32} (hx2 : x2 = nI g) {l : Int} (hl : l < 1000) : ∀ (m j : Nat) (J : Nat → Nat → Int32), (∀ b, b ≠ t → b ≠ t + 1 → b ≠ t + 2 → J b = I b) → J t 1 = nI j → (∀ i, i < j → J (t + 1) i = nI (i * g) ∧ ((i * g : Nat) : Int) ≤ l) → 121 ≤ m + j →
    pu_ok (f_X5_gatherGrid_L33 fu t a x2 (f_X5_gatherGrid_B81 fu t a x2) m (iI l) (nI (j * g)) (K, J, R, N)) (fun z => ∃ (I' : Nat → Nat → Int32) (c : Nat), z = (K, I', R, N) ∧ (∀ b, b ≠ t → b ≠ t + 1 → b ≠ t + 2 → I' b = I b) ∧ I' t 1 = nI c ∧ c ≤ 120 ∧ (∀ i, i < c → I' (t + 1) i = nI (i * g) ∧ ((i * g : Nat) : Int) ≤ l) ∧ l < ((c * g : Nat) : Int)) := by
  subst hx2
  have hj100 : ∀ j : Nat, (∀ i, i < j → ((i * g : Nat) : Int) ≤ l) → j ≤ 100 := by
    intro j h
    rcases Nat.lt_or_ge 100 j with q | q
    · have := h 100 q
      have : 100 * 10 ≤ 100 * g := Nat.mul_le_mul_left _ hg
      omega
    · exact q
  intro m
  induction m with
  | zero =>
    intro j J h1 h2 h3 h4
    have := hj100 j (fun i hi => (h3 i hi).2)
    omega
  | succ m ih =>
    intro j J h1 h2 h3 h4
    have hj := hj100 j (fun i hi => (h3 i hi).2)
    have hjg : j * g ≤ 100 * 500 := Nat.mul_le_mul hj hg2
    simp only [f_X5_gatherGrid_L33]
    by_cases hc : l < ((j * g : Nat) : Int)
    · rw [if_pos (by
        rcases Int.lt_or_ge l (-1000) with q | q
        · rw [iI_nat]
          rcases Int.lt_or_ge l (-2 ^ 31) with q2 | q2
          · exact absurd q2 (by sorry)
          · exact (iI_lt q2 (by omega) (by omega) (by omega)).mpr hc
        · rw [iI_nat]
          exact (iI_lt (by omega) (by omega) (by omega) (by omega)).mpr hc)]
      exact pu_some ⟨J, j, rfl, h1, h2, by omega, h3, hc⟩
    · rw [if_neg (by
        rw [iI_nat]
        exact fun q => hc ((iI_lt (by omega) (by omega) (by omega) (by omega)).mp q))]
      simp only [pu_gi hT.1, pu_gr hT.1 hT.2.1, Option.bind_some, pu_ln hT.2.2.2.1, h2]
      have hj2 : j < 100 := by
        rcases Nat.lt_or_ge j 100 with q | q
        · exact q
        · have : 100 * 10 ≤ j * g := Nat.mul_le_mul q hg
          omega
      rw [if_neg (nI_ge (show j < 120 by omega) (by decide)), pu_si hT.2.2.2.1 (by omega) (by decide)]
      simp only [Option.bind_some, pu_gi hT.1, pu_pi hT.1, ho_id]
      have r1 : hp_set J (t + 1) j (nI (j * g)) t 1 = nI j := by rw [pu_set_row _ _ _ _ (by omega)]; exact h2
      rw [r1, nI_1, nI_add, ← Nat.succ_mul]
      refine ih (j + 1) _ (fun b q1 q2 q3 => by rw [pu_set_row _ _ _ _ q1, pu_set_row _ _ _ _ q2]; exact h1 b q1 q2 q3) (by rw [pu_set_at]) (fun i hi => ?_) (by omega)
      rw [pu_set_row _ _ _ _ (by omega), pu_set]
      simp only [if_true]
      by_cases hi' : i = j
      · rw [if_pos hi', hi']
        exact ⟨trivial, by omega⟩
      · rw [if_neg hi']
        exact h3 i (by omega)
end GT4
