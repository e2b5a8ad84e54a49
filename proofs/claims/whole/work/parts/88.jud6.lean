/-! the class judges: beginnings -/
theorem pu_pr {K : Nat → Nat × Nat} {I : Nat → Nat → Int32} {R : Nat → Nat → Option Nat} {N c a k n v : Nat} (h : K a = (c + 3, n)) : ho_pr c a k v (K, I, R, N) = some (K, I, hp_set R a k (some v), N) := by simp [ho_pr, h, hp_pR]
theorem sk_all (w : Nat) (z : hp_S) {ky : Int} (h1 : -7 ≤ ky) (h2 : ky ≤ 7) : f_X3_sharpnessInKey (w + 20) (nI (nt_ll ky)) (iI ky) z = some (iI (nt_ls ky), z) := by
  rcases ky_cases h1 h2 with rfl | rfl | rfl | rfl | rfl | rfl | rfl | rfl | rfl | rfl | rfl | rfl | rfl | rfl | rfl <;> rfl
section XB
variable {K : Nat → Nat × Nat} {I I0 : Nat → Nat → Int32} {R : Nat → Nat → Option Nat} {N fu j f t c : Nat} {rb : Int32} {ky : Int}
theorem xbeg (h1 : K j = (3 + 3, 0)) (hk1 : -7 ≤ ky) (hk2 : ky ≤ 7) (hfu : 20 ≤ fu) : pu_ok (f_X3_begin fu j rb (iI ky) (K, I, R, N)) (fun z => ∃ I', z = (K, I', R, N) ∧ (∀ r, r ≠ j → I' r = I r) ∧ I' j 5 = rb ∧ I' j 6 = nI (nt_ll ky) ∧ I' j 7 = iI (nt_ls ky)) := by
  have hm : (4 * iI ky) + 6 = iI (4 * ky + 6) := by rw [show (4 : Int32) = iI 4 from rfl, show (6 : Int32) = iI 6 from rfl, iI_mul, iI_add]
  have hl : iI ((4 * ky + 6) % 7) = nI (nt_ll ky) := by
    rw [iI_nat]
    unfold nt_ll
    congr 1
    omega
  obtain ⟨w, rfl⟩ : ∃ w, fu = w + 20 := ⟨fu - 20, by omega⟩
  simp only [f_X3_begin, pu_pi h1, Option.bind_some, hm]
  rw [fm_7 _ _ (by omega) (by omega), Option.bind_some, hl]
  simp only [pu_pi h1, pu_gi h1, Option.bind_some, pu_set_at, sk_all w _ hk1 hk2]
  refine pu_some ⟨_, rfl, fun r hr => by rw [pu_set_row _ _ _ _ hr, pu_set_row _ _ _ _ hr, pu_set_row _ _ _ _ hr], ?_, ?_, ?_⟩
  · rw [pu_set_off _ _ _ _ (by decide), pu_set_off _ _ _ _ (by decide), pu_set_at]
  · rw [pu_set_off _ _ _ _ (by decide), pu_set_at]
  · rw [pu_set_at]
theorem xreset (hF : sp_F K R f) (hfu : 1700 ≤ fu) : pu_ok (f_X2_reset fu f (K, I, R, N)) (fun z => ∃ I', z = (K, I', R, N) ∧ (∀ r, r ≠ f → r ≠ f + 1 → r ≠ f + 3 → I' r = I r) ∧ (∀ i, i < 1680 → I' (f + 1) i = 0) ∧ (∀ k, k < 14 → I' (f + 3) k = 0) ∧ I' f 2 = 0 ∧ I' f 4 = 0 ∧ I' f 5 = 0) := by
  obtain ⟨f1, f2, f3, f4, f5, f6, f7⟩ := hF
  simp only [f_X2_reset, pu_gr f1 f2, Option.bind_some]
  refine pu_bind (pu_mono (gt_fill f5 (by omega) (by decide)) ?_)
  rintro _ ⟨I1, rfl, a1, a2⟩
  simp only [pu_gr f1 f4, Option.bind_some]
  refine pu_bind (pu_mono (gt_fill f7 (by omega) (by decide)) ?_)
  rintro _ ⟨I2, rfl, b1, b2⟩
  simp only [pu_pi f1, Option.bind_some]
  refine pu_some ⟨_, rfl, fun r q1 q2 q3 => by rw [pu_set_row _ _ _ _ q1, pu_set_row _ _ _ _ q1, pu_set_row _ _ _ _ q1, b2 r q3, a2 r q2], fun i hi => by rw [pu_set_row _ _ _ _ (by omega), pu_set_row _ _ _ _ (by omega), pu_set_row _ _ _ _ (by omega), b2 _ (by omega)]; exact a1 i hi, fun k hk => by rw [pu_set_row _ _ _ _ (by omega), pu_set_row _ _ _ _ (by omega), pu_set_row _ _ _ _ (by omega)]; exact b1 k hk, ?_, ?_, ?_⟩
  · rw [pu_set_off _ _ _ _ (by decide), pu_set_off _ _ _ _ (by decide), pu_set_at]
  · rw [pu_set_off _ _ _ _ (by decide), pu_set_at]
  · rw [pu_set_at]
theorem xfb (hF : sp_F K R f) (hT : sp_T K R t) (htf : t + 2 < f) (hfu : 1700 ≤ fu) : pu_ok (f_X2_begin fu f t (K, I, R, N)) (fun z => ∃ I', z = (K, I', R, N) ∧ (∀ r, (r < f ∨ f + 3 < r) → I' r = I r) ∧ (∀ i, i < 1680 → I' (f + 1) i = 0) ∧ (∀ k, k < 14 → I' (f + 3) k = 0) ∧ I' f 2 = I t 1 ∧ I' f 4 = 0 ∧ I' f 5 = 0 ∧ ∀ i, i < 120 → I' (f + 2) i = I (t + 1) i) := by
  simp only [f_X2_begin, pu_is hF.1, Option.bind_some]
  refine pu_bind (pu_mono (xreset hF hfu) ?_)
  rintro _ ⟨I1, rfl, a1, a2, a3, a4, a5, a6⟩
  obtain ⟨f1, f2, f3, f4, f5, f6, f7⟩ := hF
  obtain ⟨t1, t2, t3, t4, t5⟩ := hT
  simp only [pu_gi t1, pu_pi f1, pu_gr t1 t2, pu_gr f1 f3, pu_ln f6, Option.bind_some]
  have hcp : ∀ I' : Nat → Nat → Int32, ho_cp (t + 1) 0 (f + 2) 0 (nI 120) (K, I', R, N) = some (K, va_up I' (f + 2) (va_cpy (I' (t + 1)) (I' (f + 2)) 0 0 120), R, N) := by
    intro I'
    unfold ho_cp
    simp only [t4, f6]
    rw [if_pos ⟨trivial, trivial, by decide, by decide, by decide, by decide, by decide⟩]
    rfl
  rw [hcp, Option.bind_some]
  have hup : ∀ (g : Nat → Nat → Int32) (v : Nat → Int32) (b : Nat), va_up g (f + 2) v b = if b = f + 2 then v else g b := fun g v b => by
    unfold va_up
    by_cases hb : b = f + 2 <;> simp [hb]
  refine pu_some ⟨_, rfl, fun r hr => by rw [hup, if_neg (by omega), pu_set_row _ _ _ _ (by omega)]; exact a1 r (by omega) (by omega) (by omega), fun i hi => by rw [hup, if_neg (by omega), pu_set_row _ _ _ _ (by omega)]; exact a2 i hi, fun k hk => by rw [hup, if_neg (by omega), pu_set_row _ _ _ _ (by omega)]; exact a3 k hk, ?_, ?_, ?_, fun i hi => ?_⟩
  · rw [hup, if_neg (by omega), pu_set_at, a1 t (by omega) (by omega) (by omega)]
  · rw [hup, if_neg (by omega), pu_set_off _ _ _ _ (by decide)]
    exact a5
  · rw [hup, if_neg (by omega), pu_set_off _ _ _ _ (by decide)]
    exact a6
  · rw [hup, if_pos rfl, pu_set_row _ _ _ _ (by omega), a1 (t + 1) (by omega) (by omega) (by omega)]
    unfold va_cpy
    simp [hi]
theorem xhush (hC : sp_C K R c) (hfu : 10 ≤ fu) : pu_ok (f_X0_hush fu c (K, I, R, N)) (fun z => ∃ I', z = (K, I', R, N) ∧ (∀ r, r ≠ c + 1 → I' r = I r) ∧ ∀ v, v < 5 → I' (c + 1) v = 0) := by
  have key : ∀ (s w i : Nat) (J : Nat → Nat → Int32), i + s = 5 → s < w → (∀ r, r ≠ c + 1 → J r = I r) → (∀ v, v < i → J (c + 1) v = 0) → pu_ok (f_X0_hush_L2 fu c (f_X0_hush_B24 fu c) w (nI i) (K, J, R, N)) (fun z => ∃ I', z = (K, I', R, N) ∧ (∀ r, r ≠ c + 1 → I' r = I r) ∧ ∀ v, v < 5 → I' (c + 1) v = 0) := by
    intro s
    induction s with
    | zero =>
      intro w i J h1 h2 h3 h4
      obtain ⟨w, rfl⟩ : ∃ w', w = w' + 1 := ⟨w - 1, by omega⟩
      have : i = 5 := by omega
      subst this
      simp only [f_X0_hush_L2, f_X0_hush_B24, pu_gr hC.1 hC.2.1, pu_ln hC.2.2.2.2.2.1, Option.bind_some]
      rw [if_pos (Int32.le_refl _)]
      exact pu_some ⟨J, rfl, h3, h4⟩
    | succ s ih =>
      intro w i J h1 h2 h3 h4
      obtain ⟨w, rfl⟩ : ∃ w', w = w' + 1 := ⟨w - 1, by omega⟩
      simp only [f_X0_hush_L2, pu_gr hC.1 hC.2.1, pu_ln hC.2.2.2.2.2.1, Option.bind_some, pu_sz hC.2.2.2.2.2.1 (show i < 5 by omega) (by decide), pu_vn0, ho_id, nI_1]
      rw [if_neg (nI_ge (show i < 5 by omega) (by decide))]
      refine ih w (i + 1) _ (by omega) (by omega) (fun r hr => by rw [pu_set_row _ _ _ _ hr]; exact h3 r hr) (fun v hv => ?_)
      rw [pu_set]
      simp only [if_true]
      by_cases q : v = i
      · rw [if_pos q]
      · rw [if_neg q]
        exact h4 v (by omega)
  have := key 5 fu 0 I (by omega) (by omega) (fun _ _ => rfl) (fun v hv => absurd hv (Nat.not_lt_zero _))
  rw [nI_0] at this
  exact this
end XB
