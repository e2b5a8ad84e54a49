section GT4
variable {K : Nat → Nat × Nat} {I : Nat → Nat → Int32} {R : Nat → Nat → Option Nat} {N fu a n t g : Nat} {P : Nat → Nat} {sz : Nat → Nat} {tm : Nat → Nat → Nat}
set_option maxHeartbeats 2000000 in
theorem gt_grid2 (hT : sp_T K R t) (hg : 10 ≤ g) (hg2 : g ≤ 500) {x2 : Int32} (hx2 : x2 = nI g) {l : Int} (hl0 : -1 ≤ l) (hl : l < 1000) : ∀ (m j : Nat) (J : Nat → Nat → Int32), (∀ b, b ≠ t → b ≠ t + 1 → b ≠ t + 2 → J b = I b) → J t 1 = nI j → (∀ i, i < j → J (t + 1) i = nI (i * g) ∧ ((i * g : Nat) : Int) ≤ l) → 121 ≤ m + j →
    pu_ok (f_X5_gatherGrid_L33 fu t a x2 (f_X5_gatherGrid_B81 fu t a x2) m (iI l) (nI (j * g)) (K, J, R, N)) (fun z => ∃ (I' : Nat → Nat → Int32) (c : Nat), z = (K, I', R, N) ∧ (∀ b, b ≠ t → b ≠ t + 1 → b ≠ t + 2 → I' b = I b) ∧ I' t 1 = nI c ∧ c ≤ 120 ∧ (∀ i, i < c → I' (t + 1) i = nI (i * g) ∧ ((i * g : Nat) : Int) ≤ l) ∧ l < ((c * g : Nat) : Int)) := by
  subst hx2
  have hj100 : ∀ j : Nat, (∀ i, i < j → ((i * g : Nat) : Int) ≤ l) → j ≤ 100 := by
    intro j h
    rcases Nat.lt_or_ge 100 j with q | q
    · have := h 100 q
      have : 100 * 10 ≤ 100 * g := Nat.mul_le_mul_left _ hg
      omega
    · exact q
  intro m
  induction m with
  | zero =>
    intro j J h1 h2 h3 h4
    have := hj100 j (fun i hi => (h3 i hi).2)
    omega
  | succ m ih =>
    intro j J h1 h2 h3 h4
    have hj := hj100 j (fun i hi => (h3 i hi).2)
    have hjg : j * g ≤ 100 * 500 := Nat.mul_le_mul hj hg2
    simp only [f_X5_gatherGrid_L33]
    by_cases hc : l < ((j * g : Nat) : Int)
    · rw [if_pos (by rw [iI_nat]; exact (iI_lt (by omega) (by omega) (by omega) (by omega)).mpr hc)]
      exact pu_some ⟨J, j, rfl, h1, h2, by omega, h3, hc⟩
    · rw [if_neg (by
        rw [iI_nat]
        exact fun q => hc ((iI_lt (by omega) (by omega) (by omega) (by omega)).mp q))]
      simp only [pu_gi hT.1, pu_gr hT.1 hT.2.1, Option.bind_some, pu_ln hT.2.2.2.1, h2]
      have hj2 : j < 100 := by
        rcases Nat.lt_or_ge j 100 with q | q
        · exact q
        · have : 100 * 10 ≤ j * g := Nat.mul_le_mul q hg
          omega
      rw [if_neg (nI_ge (show j < 120 by omega) (by decide)), pu_si hT.2.2.2.1 (by omega) (by decide)]
      simp only [Option.bind_some, pu_gi hT.1, pu_pi hT.1, ho_id]
      have r1 : hp_set J (t + 1) j (nI (j * g)) t 1 = nI j := by rw [pu_set_row _ _ _ _ (by omega)]; exact h2
      rw [r1, nI_1, nI_add, ← Nat.succ_mul]
      refine ih (j + 1) _ (fun b q1 q2 q3 => by rw [pu_set_row _ _ _ _ q1, pu_set_row _ _ _ _ q2]; exact h1 b q1 q2 q3) (by rw [pu_set_at]) (fun i hi => ?_) (by omega)
      rw [pu_set_row _ _ _ _ (by omega), pu_set]
      simp only [if_true]
      by_cases hi' : i = j
      · rw [if_pos hi', hi']
        exact ⟨rfl, by omega⟩
      · rw [if_neg hi']
        exact h3 i (by omega)
set_option maxHeartbeats 2000000 in
theorem gt_grid (hA : sp_A K R a n P) (hT : sp_T K R t) (hE : sp_E I P n sz tm) (hz : I t 1 = 0) (hg : 10 ≤ g) (hg2 : g ≤ 500) (hfu : 200 ≤ fu) :
    pu_ok (f_X5_gatherGrid fu t a (nI g) (K, I, R, N)) (gt_Post K I R N t (sp_isG n sz tm g)) := by
  have h5 := hA.2.1
  simp only [f_X5_gatherGrid]
  refine pu_for (fun m i w => f_X5_gatherGrid_L5 fu t a (nI g) (f_X5_gatherGrid_B30 fu t a (nI g)) m w i (K, I, R, N)) (fun w => f_X5_gatherGrid_B30 fu t a (nI g) w (K, I, R, N))
    (fun i w => ∃ l : Int, w = iI l ∧ -1 ≤ l ∧ l < 1000 ∧ (∀ v, v < i → 0 < sz v → (tm v (sz v - 1) : Int) ≤ l) ∧ (l = -1 ∨ ∃ v, v < i ∧ 0 < sz v ∧ l = (tm v (sz v - 1) : Int))) n
    (fun m w _ hk => ?_) (fun m i w hi hI ih => ?_) (fun w hI => ?_) fu 0 (-1) (Nat.zero_le _) (by omega) ⟨-1, rfl, by omega, by omega, fun v hv => absurd hv (by omega), Or.inl rfl⟩
  · show pu_ok (f_X5_gatherGrid_L5 _ _ _ _ _ _ _ _ _) _
    simp only [f_X5_gatherGrid_L5, pu_ln hA.1, Option.bind_some]
    rw [if_pos (Int32.le_refl _)]
    exact hk
  · obtain ⟨l, rfl, l1, l2, l3, l4⟩ := hI
    show pu_ok (f_X5_gatherGrid_L5 _ _ _ _ _ _ _ _ _) _
    obtain ⟨hr, hp⟩ := hA.2.2 i hi
    obtain ⟨g1, g2, g3, -⟩ := hE i hi
    have q2 : ho_lr 4 a (nI i) (K, I, R, N) = some (P i) := pu_lr hA.1 hi (by omega) hr
    have q3 : (if sz i = 0 then (-1 : Int32) else I (P i + 1) (sz i - 1)) = iI (if sz i = 0 then -1 else (tm i (sz i - 1) : Int)) := by
      split
      · rfl
      · rw [(g3 _ (by omega)).1, iI_nat]
    simp only [f_X5_gatherGrid_L5, pu_ln hA.1, Option.bind_some, q2, pu_is hp.1, gt_last hp g1 g2, ho_id, q3]
    rw [if_neg (nI_ge hi (by omega)), nI_1]
    generalize hL : (if sz i = 0 then (-1 : Int) else (tm i (sz i - 1) : Int)) = L
    have hLb : -1 ≤ L ∧ L < 1000 := by
      rw [← hL]
      split
      · omega
      · have := (g3 (sz i - 1) (by omega)).2
        omega
    by_cases hc : l < L
    · rw [if_pos ((iI_lt (by omega) (by omega) (by omega) (by omega)).mpr hc)]
      have hs0 : sz i ≠ 0 := fun q => by rw [if_pos q] at hL; omega
      rw [if_neg hs0] at hL
      refine ih _ ⟨L, rfl, hLb.1, hLb.2, fun v hv h => ?_, Or.inr ⟨i, by omega, by omega, hL.symm⟩⟩
      rcases Nat.lt_or_ge v i with h' | h'
      · have := l3 v h' h
        omega
      · have : v = i := by omega
        subst this
        omega
    · rw [if_neg (fun q => hc ((iI_lt (by omega) (by omega) (by omega) (by omega)).mp q))]
      refine ih _ ⟨l, rfl, l1, l2, fun v hv h => ?_, l4.imp id (fun ⟨v, h1, h2⟩ => ⟨v, by omega, h2⟩)⟩
      rcases Nat.lt_or_ge v i with h' | h'
      · exact l3 v h' h
      · have : v = i := by omega
        subst this
        rw [if_neg (by omega)] at hL
        omega
  · obtain ⟨l, rfl, l1, l2, l3, l4⟩ := hI
    show pu_ok (f_X5_gatherGrid_B30 _ _ _ _ _ _) _
    simp only [f_X5_gatherGrid_B30]
    have key := gt_grid2 (I := I) (R := R) (N := N) (fu := fu) (a := a) (K := K) hT hg hg2 rfl l1 l2 fu 0 I (fun _ _ _ _ => rfl) hz (fun i hi => absurd hi (by omega)) (by omega)
    rw [show nI (0 * g) = 0 by rw [Nat.zero_mul, nI_0]] at key
    refine pu_mono key ?_
    rintro _ ⟨I', c, rfl, k1, k2, k3, k4, k5⟩
    refine ⟨I', c, fun i => i * g, rfl, k1, k2, k3, fun j hj => ⟨(k4 j hj).1, by have := (k4 j hj).2; show j * g < 1000; omega⟩, fun i j hij _ => Nat.mul_lt_mul_of_pos_right hij (by omega), fun x => ⟨fun ⟨hx, v, hv, hs, hle⟩ => ?_, fun ⟨j, hj, hx⟩ => ?_⟩⟩
    · have u1 := l3 v hv hs
      have u2 : x / g * g = x := Nat.div_mul_cancel (Nat.dvd_of_mod_eq_zero hx)
      refine ⟨x / g, ?_, u2⟩
      rcases Nat.lt_or_ge (x / g) c with q | q
      · exact q
      · have : c * g ≤ x / g * g := Nat.mul_le_mul_right _ q
        omega
    · have u1 := (k4 j hj).2
      simp only at hx
      rcases l4 with q | ⟨v, hv, hs, q⟩
      · omega
      · exact ⟨by rw [← hx]; exact Nat.mul_mod_left _ _, v, hv, hs, by omega⟩
theorem gt_gather (hA : sp_A K R a n P) (hT : sp_T K R t) (hsep : ∀ v, v < n → P v + 4 ≤ t) (hE : sp_E I P n sz tm) (hg : g = 0 ∨ 10 ≤ g ∧ g ≤ 500) (hfu : 200 ≤ fu) :
    pu_ok (f_X5_gather fu t a (nI g) (K, I, R, N)) (gt_Post K I R N t (sp_isM n sz tm g)) := by
  simp only [f_X5_gather, f_X5_gather_B23, pu_pi hT.1, Option.bind_some, pu_is hT.1]
  have hE' : sp_E (hp_set I t 1 0) P n sz tm := hE.keep (fun v hv => by have := hsep v hv; exact ⟨pu_set_row _ _ _ _ (by omega), pu_set_row _ _ _ _ (by omega)⟩)
  have hfr : ∀ {M : Nat → Prop} (z : hp_S), gt_Post K (hp_set I t 1 0) R N t M z → gt_Post K I R N t M z := by
    rintro M _ ⟨I', c, T, rfl, g1, g2⟩
    exact ⟨I', c, T, rfl, fun b q1 q2 q3 => by rw [g1 b q1 q2 q3, pu_set_row _ _ _ _ q1], g2⟩
  by_cases h0 : g = 0
  · rw [if_pos (by rw [h0, nI_0]; exact Int32.le_refl _)]
    refine pu_bind (pu_mono (gt_events hA hT hsep hE' (pu_set_at _ _ _ _) hfu) fun z hz => pu_some ?_)
    have := hfr z hz
    unfold sp_isM
    simp only [h0, if_true]
    exact this
  · rw [if_neg (nI_nle (by omega) (by omega))]
    refine pu_bind (pu_mono (gt_grid hA hT hE' (pu_set_at _ _ _ _) (by omega) (by omega) hfu) fun z hz => pu_some ?_)
    have := hfr z hz
    unfold sp_isM
    simp only [h0, if_false]
    exact this
end GT4
