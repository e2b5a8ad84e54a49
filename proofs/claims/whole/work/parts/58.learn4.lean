section LR4
variable {K : Nat → Nat × Nat} {I : Nat → Nat → Int32} {R : Nat → Nat → Option Nat} {N fu y n g : Nat} {sz : Nat → Nat} {tm : Nat → Nat → Nat} {Q : hp_S → Prop}
/-- the rows behind the moments: which event stands where, below voice v, and of v below moment m -/
def lr_Ev (I J J' : Nat → Nat → Int32) (y n c : Nat) (sz : Nat → Nat) (tm : Nat → Nat → Nat) (T : Nat → Nat) (v m : Nat) : Prop := (∀ b, b ≠ y + 13 → J' b = J b) ∧ (∀ u, u < v → ∀ i, i < c → sp_ev (I (y + 3)) sz tm u (T i) (J' (y + 13) (120 * u + i))) ∧ ∀ i, i < m → sp_ev (I (y + 3)) sz tm v (T i) (J' (y + 13) (120 * v + i))
set_option maxHeartbeats 1000000 in
theorem lr_row {J : Nat → Nat → Int32} (hY : sp_Y K R y) (hE : sp_YE J y n sz tm) (ho : sp_ok n sz tm) (hn : n ≤ 5) {c : Nat} {T : Nat → Nat} (hc : J y 16 = nI c) (hc2 : c ≤ 120) (hT : ∀ j, j < c → J (y + 12) j = nI (T j) ∧ T j < 1000) (hinc : ∀ i j, i < j → j < c → T i < T j) (h3 : J (y + 3) = I (y + 3)) (hfu : 200 ≤ fu) {v : Nat} (hv : v < n) (kk : Int32 → hp_S → Option hp_S)
    (hk : ∀ J', lr_Ev I J J' y n c sz tm T v c → pu_ok (kk (nI v) (K, J', R, N)) Q) : ∀ (d m k : Nat) (J' : Nat → Nat → Int32), lr_Ev I J J' y n c sz tm T v m → m ≤ c → c - m < d → k ≤ sz v → (∀ i, i < k → ∀ j, m ≤ j → j < c → tm v i ≤ T j) → pu_ok (f_X7_learn_L217 fu y kk d (nI v) (nI k) (nI m) (K, J', R, N)) Q := by
  intro d
  induction d with
  | zero => intro m k J' h1 h2 h4; omega
  | succ d ih =>
    intro m k J' hI h1 h2 hk1 hk2
    obtain ⟨i1, i2, i3⟩ := hI
    have o1 := (ho v hv).1
    have hcJ : J' y 16 = nI c := by rw [i1 y (by omega)]; exact hc
    simp only [f_X7_learn_L217, pu_gi hY.k, Option.bind_some, hcJ]
    by_cases hcm : c ≤ m
    · rw [if_pos (nI_le hcm (by omega))]
      have : m = c := by omega
      subst this
      exact hk J' ⟨i1, i2, i3⟩
    · rw [if_neg (nI_ge (by omega) (by omega))]
      have hEJ : sp_YE J' y n sz tm := ⟨by rw [i1 y (by omega)]; exact hE.1, fun u hu => by rw [i1 _ (by omega), i1 _ (by omega)]; exact hE.2 u hu⟩
      obtain ⟨t1, t2⟩ := hT m (by omega)
      refine lr_while (m := m) (x := T m) hY hEJ ho hn hv (by omega) (by rw [i1 _ (by omega)]; exact t1) t2 _ (fun k' a1 a2 a3 => ?_) fu k hk1 (by omega) (fun i hi => hk2 i hi m (Nat.le_refl _) (by omega))
      have hnext : ∀ (e : Int32), e = (if k' = 0 ∨ I (y + 3) (24 * v + (k' - 1)) = -1 then -1 else nI (24 * v + (k' - 1))) → pu_ok (f_X7_learn_B305 fu y (f_X7_learn_L217 fu y kk d) kk (nI v) (nI k') (nI m) e (nI (120 * v + m)) (y + 13) (K, J', R, N)) Q := by
        intro e he
        simp only [f_X7_learn_B305, pu_si hY.f18.2 (show 120 * v + m < 600 by omega) (by decide), Option.bind_some, ho_id, nI_1]
        refine ih (m + 1) k' _ ⟨fun b hb => by rw [pu_set_row _ _ _ _ hb]; exact i1 b hb, fun u hu i hi => ?_, fun i hi => ?_⟩ (by omega) (by omega) a1 (fun i hi j q1 q2 => ?_)
        · rw [pu_set]
          simp only [if_true]
          rw [if_neg (by omega)]
          exact i2 u hu i hi
        · rw [pu_set]
          simp only [if_true]
          by_cases hi' : i = m
          · subst hi'
            rw [if_pos rfl]
            exact ⟨k', a1, a2, a3, he⟩
          · rw [if_neg (by omega)]
            exact i3 i (by omega)
        · have := a2 i hi
          have := hinc m j (by omega) q2
          omega
      simp only [f_X7_learn_B263, f_X7_learn_B299, pu_gr hY.k hY.f18.1, pu_gr hY.k hY.f3.1, ho_id, Option.bind_some, lr_ix2]
      by_cases h0 : k' = 0
      · rw [if_pos (by rw [h0, nI_0])]
        exact hnext (-1) (by rw [if_pos (Or.inl h0)])
      · obtain ⟨q, rfl⟩ : ∃ q, k' = q + 1 := ⟨k' - 1, by omega⟩
        rw [if_neg (nI_ne0 (by omega) (by omega)), lr_ix1, pu_li hY.f3.2 (by omega) (by decide), i1 _ (by omega), h3]
        simp only [Option.bind_some]
        by_cases hr : I (y + 3) (24 * v + q) = -1
        · rw [if_pos hr]
          exact hnext (-1) (if_pos (Or.inr hr)).symm
        · rw [if_neg hr]
          exact hnext (nI (24 * v + q)) (if_neg (fun h => h.elim (fun h => absurd h (by omega)) hr)).symm
theorem lr_rows {J : Nat → Nat → Int32} (hY : sp_Y K R y) (hE : sp_YE J y n sz tm) (ho : sp_ok n sz tm) (hn : n ≤ 5) {c : Nat} {T : Nat → Nat} (hc : J y 16 = nI c) (hc2 : c ≤ 120) (hT : ∀ j, j < c → J (y + 12) j = nI (T j) ∧ T j < 1000) (hinc : ∀ i j, i < j → j < c → T i < T j) (h3 : J (y + 3) = I (y + 3)) (hfu : 200 ≤ fu) (kk : hp_S → Option hp_S)
    (hk : ∀ J', (∀ b, b ≠ y + 13 → J' b = J b) → (∀ u, u < n → ∀ i, i < c → sp_ev (I (y + 3)) sz tm u (T i) (J' (y + 13) (120 * u + i))) → pu_ok (kk (K, J', R, N)) Q) : ∀ (d v : Nat) (J' : Nat → Nat → Int32), lr_Ev I J J' y n c sz tm T v 0 → v ≤ n → n - v < d → pu_ok (f_X7_learn_L204 fu y kk d (nI v) (K, J', R, N)) Q := by
  intro d
  induction d with
  | zero => intro v J' h1 h2 h4; omega
  | succ d ih =>
    intro v J' hI h1 h2
    obtain ⟨i1, i2, i3⟩ := id hI
    simp only [f_X7_learn_L204, pu_gi hY.k, Option.bind_some, i1 y (by omega), hE.1]
    by_cases hcv : n ≤ v
    · rw [if_pos (nI_le hcv (by omega))]
      have : v = n := by omega
      subst this
      exact hk J' i1 i2
    · rw [if_neg (nI_ge (by omega) (by omega))]
      have e0 : (0 : Int32) = nI 0 := nI_0.symm
      rw [e0]
      refine lr_row (I := I) (J := J) hY hE ho hn hc hc2 hT hinc h3 hfu (by omega) _ (fun J2 hJ2 => ?_) fu 0 0 J' hI (Nat.zero_le _) (by omega) (Nat.zero_le _) (fun i hi => absurd hi (Nat.not_lt_zero _))
      simp only [f_X7_learn_B312, ho_id, Option.bind_some, nI_1]
      obtain ⟨j1, j2, j3⟩ := hJ2
      refine ih (v + 1) J2 ⟨j1, fun u hu i hi => ?_, fun i hi => absurd hi (Nat.not_lt_zero _)⟩ (by omega) (by omega)
      rcases Nat.lt_or_ge u v with q | q
      · exact j2 u q i hi
      · have : u = v := by omega
        subst this
        exact j3 i hi
/-- learn(): the moments, and which event of each voice stands at each -/
theorem lr_learn (hY : sp_Y K R y) (hE : sp_YE I y n sz tm) (ho : sp_ok n sz tm) (hn : n ≤ 5) (hg : I y 9 = nI g) (hg2 : g = 0 ∨ 10 ≤ g ∧ g ≤ 500) (hfu : 1100 ≤ fu) : pu_ok (f_X7_learn fu y (K, I, R, N)) (lr_Post K I R N y n sz tm g) := by
  simp only [f_X7_learn, pu_pi hY.k, Option.bind_some]
  have s1 : ∀ b, b ≠ y → b ≠ y + 12 → hp_set I y 16 0 b = I b := fun b q _ => pu_set_row _ _ _ _ q
  have s2 : ∀ k, k ≠ 16 → hp_set I y 16 0 y k = I y k := fun k q => pu_set_off _ _ _ _ q
  have hE0 := lr_YE hE s1 s2
  have e0 : (0 : Int32) = nI 0 := nI_0.symm
  have e1 : (-1 : Int32) = iI (-1) := rfl
  rw [show f_X7_learn_L9 fu y (f_X7_learn_B66 fu y) fu (-1) 0 (K, hp_set I y 16 0, R, N) = f_X7_learn_L9 fu y (f_X7_learn_B66 fu y) fu (iI (-1)) (nI 0) (K, hp_set I y 16 0, R, N) by rw [nI_0]; rfl]
  refine lr_last hY hE0 ho hn _ (fun l hl => ?_) fu 0 (-1) (Nat.zero_le _) (by omega) ⟨by omega, by omega, fun v hv => absurd hv (by omega), Or.inl rfl⟩
  have l2 := hl.2.1
  have l1 := hl.1
  simp only [f_X7_learn_B66]
  rw [show f_X7_learn_L68 fu y (f_X7_learn_B202 fu y) fu (iI l) 0 (K, hp_set I y 16 0, R, N) = f_X7_learn_L68 fu y (f_X7_learn_B202 fu y) fu (iI l) (nI 0) (K, hp_set I y 16 0, R, N) by rw [nI_0]]
  refine lr_scan (I := I) hY hE ho hn hg (by omega) hl (by omega) _ (lr_Bd n sz tm g) (fun x c hx hb => lr_bd ho hn hg2 hl x c hx hb) (fun J x c T hI hb hx => ?_) fu 0 0 (fun _ => 0) _ ⟨s1, s2, by rw [pu_set_at, nI_0], fun j hj => absurd hj (Nat.not_lt_zero _), fun i j _ hj => absurd hj (Nat.not_lt_zero _), fun u hu => absurd hu (Nat.not_lt_zero _)⟩ (lr_bd0 hg2) (by omega) (by omega)
  obtain ⟨i1, i2, i3, i4, i5, i6⟩ := hI
  have hMl : ∀ u, sp_isM n sz tm g u → (u : Int) ≤ l := by
    intro u hu
    unfold sp_isM at hu
    by_cases h0 : g = 0
    · rw [if_pos h0] at hu
      obtain ⟨v, hv, i, hi, e⟩ := hu
      have a1 := hl.2.2.1 v hv (by omega)
      rcases Nat.lt_or_ge i (sz v - 1) with q | q
      · have := (ho v hv).2.2 i (sz v - 1) q (by omega)
        omega
      · have : i = sz v - 1 := by omega
        rw [this] at e
        omega
    · rw [if_neg h0] at hu
      obtain ⟨-, v, hv, hs, h⟩ := hu
      have a1 := hl.2.2.1 v hv hs
      omega
  have hM : sp_M (sp_isM n sz tm g) c T := ⟨i5, fun u => by
    rcases Nat.lt_or_ge u x with q | q
    · exact i6 u q
    · refine ⟨fun h => ?_, fun ⟨j, j1, j2⟩ => ?_⟩
      · have := hMl u h
        omega
      · have := (i4 j j1).2
        omega⟩
  have hT1 : ∀ j, j < c → J (y + 12) j = nI (T j) ∧ T j < 1000 := fun j hj => ⟨(i4 j hj).1, by
    have := hMl (T j) ((hM.2 (T j)).mpr ⟨j, hj, rfl⟩)
    omega⟩
  have hc : c ≤ 120 := by
    rcases Nat.lt_or_ge 1000 x with q | q
    · rcases Nat.lt_or_ge 120 c with q2 | q2
      · exfalso
        have hx0 : lr_Bd n sz tm g x c := hb
        unfold lr_Bd at hx0
        by_cases h0 : g = 0
        · rw [if_pos h0] at hx0
          obtain ⟨hd, a1, a2⟩ := hx0
          have := gt_sum_bd (m := 24) n (fun v hv => Nat.le_trans (a1 v hv).1 (ho v hv).1)
          omega
        · have a1 := (hT1 120 q2).2
          have a2 : ∀ j, j < c → T j % g = 0 := fun j hj => by
            have := (hM.2 (T j)).mpr ⟨j, hj, rfl⟩
            unfold sp_isM at this
            rw [if_neg h0] at this
            exact this.1
          have a3 : ∀ j, j < c → j * 10 ≤ T j := by
            intro j
            induction j with
            | zero => intro _; omega
            | succ j ihj =>
              intro hj
              have b1 := ihj (by omega)
              have b2 := i5 j (j + 1) (by omega) hj
              have b3 := a2 j (by omega)
              have b4 := a2 (j + 1) hj
              have b5 : T j + g ≤ T (j + 1) := by
                have c1 := Nat.div_mul_cancel (Nat.dvd_of_mod_eq_zero b3)
                have c2 := Nat.div_mul_cancel (Nat.dvd_of_mod_eq_zero b4)
                have c3 : T j / g < T (j + 1) / g := by
                  rcases Nat.lt_or_ge (T j / g) (T (j + 1) / g) with q | q
                  · exact q
                  · have := Nat.mul_le_mul_right g q
                    omega
                have c4 : (T j / g + 1) * g ≤ T (j + 1) / g * g := Nat.mul_le_mul_right _ c3
                rw [Nat.succ_mul] at c4
                omega
              omega
          have := a3 120 q2
          omega
      · exact q2
    · exact lr_bdc ho hn hg2 q hb
  have hEJ := lr_YE hE i1 i2
  simp only [f_X7_learn_B202]
  rw [show f_X7_learn_L204 fu y (f_X7_learn_B318 fu y) fu 0 (K, J, R, N) = f_X7_learn_L204 fu y (f_X7_learn_B318 fu y) fu (nI 0) (K, J, R, N) by rw [nI_0]]
  refine lr_rows (I := I) (J := J) hY hEJ ho hn i3 hc hT1 i5 (i1 _ (by omega) (by omega)) (by omega) _ (fun J' j1 j2 => ?_) fu 0 J ⟨fun _ _ => rfl, fun u hu => absurd hu (Nat.not_lt_zero _), fun i hi => absurd hi (Nat.not_lt_zero _)⟩ (Nat.zero_le _) (by omega)
  exact pu_some ⟨J', c, T, rfl, fun b q1 q2 q3 => by rw [j1 b q3]; exact i1 b q1 q2, fun k hk => by rw [j1 y (by omega)]; exact i2 k hk, by rw [j1 y (by omega)]; exact i3, hc, fun j hj => by rw [j1 _ (by omega)]; exact hT1 j hj, hM, j2⟩
end LR4
