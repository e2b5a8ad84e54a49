/-- c moments T of a timeline at t: rising, and just the times of which M holds -/
def sp_M (M : Nat → Prop) (c : Nat) (T : Nat → Nat) : Prop := (∀ i j, i < j → j < c → T i < T j) ∧ ∀ x, M x ↔ ∃ j, j < c ∧ T j = x
def sp_isE (n : Nat) (sz : Nat → Nat) (tm : Nat → Nat → Nat) (x : Nat) : Prop := ∃ v, v < n ∧ ∃ i, i < sz v ∧ tm v i = x
def sp_isG (n : Nat) (sz : Nat → Nat) (tm : Nat → Nat → Nat) (g x : Nat) : Prop := x % g = 0 ∧ ∃ v, v < n ∧ 0 < sz v ∧ x ≤ tm v (sz v - 1)
def sp_isM (n : Nat) (sz : Nat → Nat) (tm : Nat → Nat → Nat) (g x : Nat) : Prop := if g = 0 then sp_isE n sz tm x else sp_isG n sz tm g x
section GT3
variable {K : Nat → Nat × Nat} {I : Nat → Nat → Int32} {R : Nat → Nat → Option Nat} {N fu a n t : Nat} {P : Nat → Nat} {sz : Nat → Nat} {tm : Nat → Nat → Nat}
/-- what holds at the head of the loop of gatherEvents -/
def gt_Inv (K : Nat → Nat × Nat) (I : Nat → Nat → Int32) (R : Nat → Nat → Option Nat) (N n t : Nat) (sz : Nat → Nat) (tm : Nat → Nat → Nat) (c e : Nat) (z : hp_S) : Prop :=
  ∃ (I' : Nat → Nat → Int32) (hd T : Nat → Nat), z = (K, I', R, N) ∧ (∀ b, b ≠ t → b ≠ t + 1 → b ≠ t + 2 → I' b = I b) ∧ I' t 1 = nI c ∧ (∀ v, v < n → I' (t + 2) v = nI (hd v) ∧ hd v ≤ sz v) ∧
    (∀ j, j < c → I' (t + 1) j = nI (T j) ∧ T j < e ∧ ∃ v, v < n ∧ ∃ i, i < sz v ∧ tm v i = T j) ∧ (∀ i j, i < j → j < c → T i < T j) ∧
    (∀ v, v < n → ∀ i, i < hd v → ∃ j, j < c ∧ T j = tm v i) ∧ (∀ v, v < n → ∀ i, hd v ≤ i → i < sz v → e ≤ tm v i) ∧ e ≤ 1000 ∧ (e = 1000 ∨ ∃ v, v < n ∧ hd v < sz v ∧ e = tm v (hd v)) ∧ c ≤ gt_sum hd n
def gt_Post (K : Nat → Nat × Nat) (I : Nat → Nat → Int32) (R : Nat → Nat → Option Nat) (N t : Nat) (M : Nat → Prop) (z : hp_S) : Prop :=
  ∃ (I' : Nat → Nat → Int32) (c : Nat) (T : Nat → Nat), z = (K, I', R, N) ∧ (∀ b, b ≠ t → b ≠ t + 1 → b ≠ t + 2 → I' b = I b) ∧ I' t 1 = nI c ∧ c ≤ 120 ∧ (∀ j, j < c → I' (t + 1) j = nI (T j) ∧ T j < 1000) ∧ sp_M M c T
set_option maxHeartbeats 2000000 in
theorem gt_loop (hA : sp_A K R a n P) (hT : sp_T K R t) (hsep : ∀ v, v < n → P v + 4 ≤ t) (hE : sp_E I P n sz tm) (hfu : 10 ≤ fu) : ∀ (m c e : Nat) (z : hp_S), gt_Inv K I R N n t sz tm c e z → 121 ≤ m + c →
    pu_ok (f_X5_gatherEvents_L14 fu t a (f_X5_gatherEvents_B68 fu t a) m (nI e) z) (gt_Post K I R N t (sp_isE n sz tm)) := by
  have h5 := hA.2.1
  intro m
  induction m with
  | zero =>
    intro c e z hI hm
    obtain ⟨I', hd, T, rfl, h1, h2, h3, h4, h5', h6, h7, h8, h9, h10⟩ := hI
    have b1 := gt_sum_le n (fun v hv => (h3 v hv).2)
    have b2 := gt_sum_bd (m := 24) n (fun v hv => (hE v hv).2.1)
    omega
  | succ m ih =>
    intro c e z hI hm
    obtain ⟨I', hd, T, rfl, h1, h2, h3, h4, h5', h6, h7, h8, h9, h10⟩ := hI
    have b1 := gt_sum_le n (fun v hv => (h3 v hv).2)
    have b2 := gt_sum_bd (m := 24) n (fun v hv => (hE v hv).2.1)
    have hE' : sp_E I' P n sz tm := hE.keep (fun v hv => by have := hsep v hv; exact ⟨h1 _ (by omega) (by omega) (by omega), h1 _ (by omega) (by omega) (by omega)⟩)
    simp only [f_X5_gatherEvents_L14]
    by_cases hc : 999 < e
    · rw [if_pos (show (999 : Int32) < nI e from nI_lt (a := 999) hc (by omega))]
      have e0 : e = 1000 := by omega
      refine pu_some ⟨I', c, T, rfl, h1, h2, by omega, fun j hj => ⟨(h4 j hj).1, by have := (h4 j hj).2.1; omega⟩, h5', fun x => ⟨fun ⟨v, hv, i, hi, hx⟩ => ?_, fun ⟨j, hj, hx⟩ => ?_⟩⟩
      · rcases Nat.lt_or_ge i (hd v) with h' | h'
        · obtain ⟨j, hj, hx'⟩ := h6 v hv i h'
          exact ⟨j, hj, hx'.trans hx⟩
        · have u1 := h7 v hv i h' hi
          have u2 := ((hE v hv).2.2.1 i hi).2
          omega
      · obtain ⟨v, hv, i, hi, hx'⟩ := (h4 j hj).2.2
        exact ⟨v, hv, i, hi, hx'.trans hx⟩
    · rw [if_neg (show ¬ (999 : Int32) < nI e from nI_nlt (a := 999) (b := e) (by omega) (by decide))]
      obtain ⟨v0, hv0, hlt0, he0⟩ := h9.resolve_left (by omega)
      have b3 := gt_sum_lt n (fun v hv => (h3 v hv).2) ⟨v0, hv0, hlt0⟩
      have hc120 : c < 120 := by
        have : 24 * n ≤ 120 := by omega
        omega
      simp only [pu_gi hT.1, pu_gr hT.1 hT.2.1, Option.bind_some, pu_ln hT.2.2.2.1, h2]
      rw [if_neg (nI_ge hc120 (by decide)), pu_si hT.2.2.2.1 hc120 (by decide)]
      simp only [Option.bind_some, pu_gi hT.1, pu_pi hT.1, pu_is hT.1]
      have r1 : hp_set I' (t + 1) c (nI e) t 1 = nI c := by rw [pu_set_row _ _ _ _ (by omega)]; exact h2
      rw [r1, nI_1]
      generalize hJ : hp_set (hp_set I' (t + 1) c (nI e)) t 1 (nI (c + 1)) = J
      have j1 : ∀ b, b ≠ t → b ≠ t + 1 → J b = I' b := fun b q1 q2 => by rw [← hJ, pu_set_row _ _ _ _ q1, pu_set_row _ _ _ _ q2]
      have j2 : J t 1 = nI (c + 1) := by rw [← hJ, pu_set_at]
      have j3 : ∀ j, J (t + 1) j = if j = c then nI e else I' (t + 1) j := fun j => by rw [← hJ, pu_set_row _ _ _ _ (by omega), pu_set]; simp
      have hEJ : sp_E J P n sz tm := hE'.keep (fun v hv => by have := hsep v hv; exact ⟨j1 _ (by omega) (by omega), j1 _ (by omega) (by omega)⟩)
      have hHJ : ∀ v, v < n → J (t + 2) v = nI (hd v) ∧ hd v ≤ sz v := fun v hv => by rw [j1 _ (by omega) (by omega)]; exact h3 v hv
      refine pu_bind (pu_mono (gt_pass hA hT hsep hEJ hHJ (by omega) hfu) ?_)
      rintro _ ⟨L, rfl, l1, l2⟩
      simp only [pu_is hT.1, Option.bind_some]
      generalize hhd : (fun v => if hd v < sz v ∧ tm v (hd v) = e then hd v + 1 else hd v) = hd'
      have k0 : ∀ v, hd' v = if hd v < sz v ∧ tm v (hd v) = e then hd v + 1 else hd v := fun v => by rw [← hhd]
      have hHL : ∀ v, v < n → L (t + 2) v = nI (hd' v) ∧ hd' v ≤ sz v := fun v hv => by
        refine ⟨by rw [l2 v hv, k0], ?_⟩
        rw [k0]
        have := (h3 v hv).2
        split <;> omega
      have hEL : sp_E L P n sz tm := hEJ.keep (fun v hv => by have := hsep v hv; exact ⟨l1 _ (by omega), l1 _ (by omega)⟩)
      obtain ⟨e', u1, u2, u3, u4⟩ := gt_early (N := N) hA hT hEL hHL hfu
      rw [u1]
      simp only [Option.bind_some]
      have hgt : e < e' := by
        rcases u4 with q | ⟨v, hv, q1, q2⟩
        · omega
        · rw [q2]
          have k1 := k0 v
          by_cases hq : hd v < sz v ∧ tm v (hd v) = e
          · rw [if_pos hq] at k1
            have := (hE v hv).2.2.2 (hd v) (hd' v) (by omega) q1
            omega
          · rw [if_neg hq] at k1
            rw [k1] at q1 ⊢
            have := h7 v hv (hd v) (Nat.le_refl _) q1
            rcases Nat.lt_or_ge e (tm v (hd v)) with h' | h'
            · exact h'
            · exact absurd ⟨q1, by omega⟩ hq
      refine ih (c + 1) e' _ ⟨L, hd', fun j => if j = c then e else T j, rfl, fun b q1 q2 q3 => by rw [l1 _ q3, j1 _ q1 q2]; exact h1 b q1 q2 q3, by rw [l1 _ (by omega)]; exact j2, hHL, fun j hj => ?_, fun i j hij hj => ?_, fun v hv i hi => ?_, fun v hv i hi hi2 => ?_, u2, u4, ?_⟩ (by omega)
      · rw [l1 _ (by omega), j3]
        by_cases hj' : j = c
        · simp only [hj', if_true]
          exact ⟨trivial, hgt, v0, hv0, hd v0, hlt0, he0.symm⟩
        · simp only [hj', if_false]
          obtain ⟨w1, w2, w3⟩ := h4 j (by omega)
          exact ⟨w1, by omega, w3⟩
      · simp only
        by_cases hj' : j = c
        · rw [if_neg (by omega), if_pos hj']
          exact (h4 i (by omega)).2.1
        · rw [if_neg (by omega), if_neg hj']
          exact h5' i j hij (by omega)
      · have k1 := k0 v
        rcases Nat.lt_or_ge i (hd v) with h' | h'
        · obtain ⟨j, hj, hx⟩ := h6 v hv i h'
          exact ⟨j, by omega, by simp only; rw [if_neg (by omega)]; exact hx⟩
        · by_cases hq : hd v < sz v ∧ tm v (hd v) = e
          · rw [if_pos hq] at k1
            have : i = hd v := by omega
            subst this
            exact ⟨c, by omega, by simp only [if_true]; exact hq.2.symm⟩
          · rw [if_neg hq] at k1
            omega
      · have w1 := u3 v hv (by omega)
        rcases Nat.lt_or_ge (hd' v) i with h' | h'
        · have := (hE v hv).2.2.2 (hd' v) i h' hi2
          omega
        · have : i = hd' v := by omega
          rw [this]
          exact w1
      · have : gt_sum hd n < gt_sum hd' n := gt_sum_lt n (fun v hv => by rw [k0]; split <;> omega) ⟨v0, hv0, by rw [k0, if_pos ⟨hlt0, he0.symm⟩]; omega⟩
        omega
theorem gt_events (hA : sp_A K R a n P) (hT : sp_T K R t) (hsep : ∀ v, v < n → P v + 4 ≤ t) (hE : sp_E I P n sz tm) (hz : I t 1 = 0) (hfu : 200 ≤ fu) :
    pu_ok (f_X5_gatherEvents fu t a (K, I, R, N)) (gt_Post K I R N t (sp_isE n sz tm)) := by
  simp only [f_X5_gatherEvents, pu_gr hT.1 hT.2.2.1, Option.bind_some]
  refine pu_bind (pu_mono (gt_fill hT.2.2.2.2 (by omega) (by decide)) ?_)
  rintro _ ⟨J, rfl, j1, j2⟩
  simp only [pu_is hT.1, Option.bind_some]
  have h5 := hA.2.1
  have hEJ : sp_E J P n sz tm := hE.keep (fun v hv => by have := hsep v hv; exact ⟨j2 _ (by omega), j2 _ (by omega)⟩)
  have hHJ : ∀ v, v < n → J (t + 2) v = nI ((fun _ => 0) v) ∧ (fun _ => 0) v ≤ sz v := fun v hv => ⟨j1 v (by omega), Nat.zero_le _⟩
  obtain ⟨e, u1, u2, u3, u4⟩ := gt_early (N := N) (fu := fu) hA hT hEJ hHJ (by omega)
  rw [u1]
  simp only [Option.bind_some]
  refine pu_mono (gt_loop hA hT hsep hEJ (by omega) fu 0 e _ ⟨J, fun _ => 0, fun _ => 0, rfl, fun _ _ _ _ => rfl, by rw [j2 _ (by omega)]; exact hz, hHJ, fun j hj => absurd hj (by omega), fun i j _ hj => absurd hj (by omega), fun v hv i hi => absurd hi (Nat.not_lt_zero _), fun v hv i hi hi2 => ?_, u2, u4, Nat.zero_le _⟩ (by omega)) ?_
  · have w : e ≤ tm v 0 := u3 v hv (by show 0 < sz v; omega)
    rcases Nat.eq_zero_or_pos i with q | q
    · rw [q]
      exact w
    · have := (hE v hv).2.2.2 0 i q hi2
      omega
  · rintro _ ⟨I', c, T, rfl, g1, g2⟩
    exact ⟨I', c, T, rfl, fun b q1 q2 q3 => by rw [g1 b q1 q2 q3]; exact j2 b q3, g2⟩
end GT3
