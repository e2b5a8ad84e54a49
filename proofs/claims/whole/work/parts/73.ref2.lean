/-! the reference: leading notes, leaps, cross relations -/
theorem ky_cases {ky : Int} (h1 : -7 ≤ ky) (h2 : ky ≤ 7) : ky = -7 ∨ ky = -6 ∨ ky = -5 ∨ ky = -4 ∨ ky = -3 ∨ ky = -2 ∨ ky = -1 ∨ ky = 0 ∨ ky = 1 ∨ ky = 2 ∨ ky = 3 ∨ ky = 4 ∨ ky = 5 ∨ ky = 6 ∨ ky = 7 := by omega
def ld_s (k : Int32) (l : Nat) : Int32 := if k ≤ 0 ∨ k ≤ md_f (2 * nI l + 1) 7 then (if 0 ≤ k ∨ -k ≤ 6 - md_f (2 * nI l + 1) 7 then 0 else -1) else 1
theorem ld_tab1 : ∀ j : Nat, j < 15 → md_f (4 * iI ((j : Int) - 7) + 6) 7 = nI (nt_ll ((j : Int) - 7)) ∧ ld_s (iI ((j : Int) - 7)) (nt_ll ((j : Int) - 7)) = iI (nt_ls ((j : Int) - 7)) ∧ nt_ll ((j : Int) - 7) < 7 ∧ -1 ≤ nt_ls ((j : Int) - 7) ∧ nt_ls ((j : Int) - 7) ≤ 1 := by decide +kernel
theorem ld_tab {ky : Int} (h1 : -7 ≤ ky) (h2 : ky ≤ 7) : md_f (4 * iI ky + 6) 7 = nI (nt_ll ky) ∧ ld_s (iI ky) (nt_ll ky) = iI (nt_ls ky) ∧ nt_ll ky < 7 ∧ -1 ≤ nt_ls ky ∧ nt_ls ky ≤ 1 := by
  have := ld_tab1 (ky + 7).toNat (by omega)
  rw [show (((ky + 7).toNat : Nat) : Int) - 7 = ky by omega] at this
  exact this
theorem lp_fin {P Q : Prop} [Decidable P] [Decidable Q] {z : hp_S} (h : P ↔ ¬ Q) : (if P then some ((0 : Int32), z) else some (1, z)) = some (bI (decide Q), z) := by
  by_cases hp : P
  · rw [if_pos hp, decide_eq_false (h.mp hp)]
    rfl
  · rw [if_neg hp, decide_eq_true (Decidable.of_not_not (fun q => hp (h.mpr q)))]
    rfl
section YR2
variable {K : Nat → Nat × Nat} {I : Nat → Nat → Int32} {R : Nat → Nat → Option Nat} {N fu y n c : Nat} {X : Nat → Nat → Option nt_T} {ky : Int}
theorem yr_lead (hY : sp_Y K R y) (hk8 : I y 8 = iI ky) (hy1 : -7 ≤ ky) (hy2 : ky ≤ 7) {e : Int32} {o : Option nt_T} (h : yr_e I y e o) : f_X7_isLeading fu y e (K, I, R, N) = some (bI (nt_ld ky o), (K, I, R, N)) := by
  rcases h with ⟨o, e⟩ | ⟨q, k, o, hq, hk, e, h3, h4⟩
  · rw [o, e]
    simp only [f_X7_isLeading, f_X7_isLeading_B30, if_true, pu_vn0]
    rfl
  · rw [o, e]
    obtain ⟨t1, t2, t3, t4, t5⟩ := ld_tab hy1 hy2
    have b2 := hq.2
    have hl : q.1 % 7 < 7 := Nat.mod_lt _ (by decide)
    unfold f_X7_isLeading
    rw [if_neg (nI_m1 hk), pu_gr hY.k hY.f3.1, Option.bind_some, yr_s hY hk, h3, Option.bind_some, ht_rm hq.1, Option.bind_some, pu_gi hY.k, hk8, Option.bind_some, md_y _ _ _ _ (by decide), Option.bind_some, t1]
    show (if nI (q.1 % 7) = nI (nt_ll ky) then _ else _) = _
    by_cases hc : q.1 % 7 = nt_ll ky
    · rw [if_pos (by rw [hc])]
      rw [pu_gr hY.k hY.f3.1, Option.bind_some, yr_s hY hk, h3, Option.bind_some, ht_rm hq.1, Option.bind_some, md_y _ _ _ _ (by decide), Option.bind_some, hc]
      show ((ho_gi 7 y 8 (K, I, R, N)).bind fun v10 => if v10 ≤ 0 then f_X7_isLeading_B69 fu y (nI k) (md_f (2 * nI (nt_ll ky) + 1) 7) (K, I, R, N) else (ho_gi 7 y 8 (K, I, R, N)).bind fun v15 => if v15 ≤ md_f (2 * nI (nt_ll ky) + 1) 7 then f_X7_isLeading_B69 fu y (nI k) (md_f (2 * nI (nt_ll ky) + 1) 7) (K, I, R, N) else f_X7_isLeading_B93 fu y (nI k) 1 (K, I, R, N)) = _
      have h93 : ∀ s : Int32, s = iI (nt_ls ky) → f_X7_isLeading_B93 fu y (nI k) s (K, I, R, N) = some (bI (nt_ld ky (some q)), (K, I, R, N)) := by
        intro s hs
        simp only [f_X7_isLeading_B93, f_X7_isLeading_B109, pu_gr hY.k hY.f4.1, yr_x hY hk, h4, hs, Option.bind_some, pu_vn0, pu_vn1, if_true, nt_ld, hc, true_and]
        by_cases c2 : q.2 = nt_ls ky
        · rw [if_pos (by rw [c2]), decide_eq_true c2]
          rfl
        · rw [if_neg (fun w => c2 ((iI_eq (by omega) (by omega) (by omega) (by omega)).mp w)), decide_eq_false c2]
          rfl
      unfold ld_s at t2
      simp only [f_X7_isLeading_B69, f_X7_isLeading_B92, pu_gi hY.k, hk8, Option.bind_some]
      have h69 : (iI ky ≤ 0 ∨ iI ky ≤ md_f (2 * nI (nt_ll ky) + 1) 7) → (if 0 ≤ iI ky then f_X7_isLeading_B93 fu y (nI k) 0 (K, I, R, N) else if -iI ky ≤ 6 - md_f (2 * nI (nt_ll ky) + 1) 7 then f_X7_isLeading_B93 fu y (nI k) 0 (K, I, R, N) else f_X7_isLeading_B93 fu y (nI k) (-1) (K, I, R, N)) = some (bI (nt_ld ky (some q)), (K, I, R, N)) := by
        intro hcc
        rw [if_pos hcc] at t2
        by_cases d1 : 0 ≤ iI ky
        · rw [if_pos d1]
          rw [if_pos (Or.inl d1)] at t2
          exact h93 _ t2
        · rw [if_neg d1]
          by_cases d2 : -iI ky ≤ 6 - md_f (2 * nI (nt_ll ky) + 1) 7
          · rw [if_pos d2]
            rw [if_pos (Or.inr d2)] at t2
            exact h93 _ t2
          · rw [if_neg d2]
            rw [if_neg (fun w => w.elim d1 d2)] at t2
            exact h93 _ t2
      by_cases d1 : iI ky ≤ 0
      · rw [if_pos d1]
        exact h69 (Or.inl d1)
      · rw [if_neg d1]
        by_cases d2 : iI ky ≤ md_f (2 * nI (nt_ll ky) + 1) 7
        · rw [if_pos d2]
          exact h69 (Or.inr d2)
        · rw [if_neg d2]
          rw [if_neg (fun w => w.elim d1 d2)] at t2
          exact h93 _ t2
    · rw [if_neg (fun w => hc ((nI_eq (by omega) (by omega)).mp w))]
      simp only [f_X7_isLeading_B30, if_true, pu_vn0, nt_ld, hc, false_and, decide_false]
      rfl
theorem yr_in (v a b : Int32) (z : hp_S) : f_X7_isIn fu v a b z = some (bI (decide (a ≤ v ∧ v ≤ b)), z) := by rw [in_y, bI_p]
/-- a leap between two events, the lower step first -/
theorem yr_leap0 (hY : sp_Y K R y) {a1 a2 a3 : Int32} {k k' : Nat} {q r : nt_T} (hk : k < 120) (hk' : k' < 120) (hq : nt_ok q) (hr : nt_ok r) (h3 : I (y + 3) k = nI q.1) (h4 : I (y + 4) k = iI q.2) (h3' : I (y + 3) k' = nI r.1) (h4' : I (y + 4) k' = iI r.2) (hle : q.1 ≤ r.1) : f_X7_leaps_B57 fu y a1 a2 a3 (nI k) (nI k') (K, I, R, N) = some (bI (nt_l0 (r.1 - q.1) (nt_h r - nt_h q)), (K, I, R, N)) := by
  have b1 := nt_hb hq
  have b2 := nt_hb hr
  have b3 := hr.1
  have hs : nI r.1 - nI q.1 = nI (r.1 - q.1) := by
    rw [iI_nat, iI_nat, iI_sub, iI_nat]
    congr 1
    omega
  simp only [f_X7_leaps_B57, f_X7_leaps_B117, f_X7_leaps_B186, f_X7_leaps_B202, f_X7_leaps_B218, f_X7_leaps_B230, f_X7_leaps_B243, f_X7_leaps_B261, f_X7_leaps_B279, pu_gr hY.k hY.f3.1, pu_is hY.k, Option.bind_some, yr_s hY hk, yr_s hY hk', h3, h3', hs, ho_id, yr_h hY hk hq h3 h4, yr_h hY hk' hr h3' h4', pu_vn0, pu_vn1, if_true]
  simp only [pu_is hY.k, Option.bind_some, yr_h hY hk hq h3 h4, yr_h hY hk' hr h3' h4', iI_sub]
  have hdv := ht_dv (k := r.1 - q.1) (by omega)
  have hrm := ht_rm (k := r.1 - q.1) (by omega)
  have hsb : r.1 - q.1 ≤ 55 := by omega
  have hhb : -99 ≤ nt_h r - nt_h q ∧ nt_h r - nt_h q ≤ 99 := by omega
  unfold nt_l0
  generalize r.1 - q.1 = s at hdv hrm hsb ⊢
  generalize nt_h r - nt_h q = h at hhb ⊢
  have hD : s / 7 ≤ 7 := by omega
  have hM : s % 7 < 7 := by omega
  simp only [hdv, hrm, Option.bind_some, yr_in, bI_ite]
  generalize s / 7 = D at hD ⊢
  generalize s % 7 = M at hM ⊢
  have hO : iI h - 12 * nI D = iI (h - 12 * (D : Int)) := by
    rw [show (12 : Int32) = iI 12 from rfl, iI_nat, iI_mul, iI_sub]
  rw [hO]
  simp only [li_lt (show -1000 ≤ h by omega) (by omega), il_eq (show -1000 ≤ h by omega) (by omega), show (12 : Int32).toInt = 12 from rfl, show (6 : Int32).toInt = 6 from rfl, show (10 : Int32).toInt = 10 from rfl, show (11 : Int32).toInt = 11 from rfl]
  by_cases c1 : 12 < h
  · rw [if_pos c1, decide_eq_true (Or.inl c1)]
    rfl
  · rw [if_neg c1]
    by_cases c2 : h = 6
    · rw [if_pos c2, decide_eq_true (Or.inr (Or.inl c2))]
      rfl
    · rw [if_neg c2]
      by_cases c3 : h = 10
      · rw [if_pos c3, decide_eq_true (Or.inr (Or.inr (Or.inl c3)))]
        rfl
      · rw [if_neg c3]
        by_cases c4 : h = 11
        · rw [if_pos c4, decide_eq_true (Or.inr (Or.inr (Or.inr (Or.inl c4))))]
          rfl
        · rw [if_neg c4]
          have w1 : -1000 ≤ h - 12 * (D : Int) := by omega
          have w2 : h - 12 * (D : Int) ≤ 1000 := by omega
          simp only [c1, c2, c3, c4, false_or]
          generalize h - 12 * (D : Int) = O at w1 w2 ⊢
          have hMc : M = 0 ∨ M = 1 ∨ M = 2 ∨ M = 3 ∨ M = 4 ∨ M = 5 ∨ M = 6 := by omega
          rcases hMc with rfl | rfl | rfl | rfl | rfl | rfl | rfl
          · rw [show nt_lo.getD 0 0 = 0 from rfl, show nt_hi.getD 0 0 = 0 from rfl]
            rw [if_pos (by decide : nI 0 = 0)]
            refine lp_fin ?_
            rw [il_eq w1 w2, show (0 : Int32).toInt = 0 from rfl]
            omega
          · rw [show nt_lo.getD 1 0 = 1 from rfl, show nt_hi.getD 1 0 = 2 from rfl]
            rw [if_neg (by decide : ¬ nI 1 = 0)]
            rw [if_pos (by decide : nI 1 = 1)]
            refine lp_fin ?_
            rw [decide_eq_true_iff, li_le w1 w2, il_le w1 w2, show (1 : Int32).toInt = 1 from rfl, show (2 : Int32).toInt = 2 from rfl]
            omega
          · rw [show nt_lo.getD 2 0 = 3 from rfl, show nt_hi.getD 2 0 = 4 from rfl]
            rw [if_neg (by decide : ¬ nI 2 = 0)]
            rw [if_neg (by decide : ¬ nI 2 = 1)]
            rw [if_pos (by decide : nI 2 = 2)]
            refine lp_fin ?_
            rw [decide_eq_true_iff, li_le w1 w2, il_le w1 w2, show (3 : Int32).toInt = 3 from rfl, show (4 : Int32).toInt = 4 from rfl]
            omega
          · rw [show nt_lo.getD 3 0 = 5 from rfl, show nt_hi.getD 3 0 = 5 from rfl]
            rw [if_neg (by decide : ¬ nI 3 = 0)]
            rw [if_neg (by decide : ¬ nI 3 = 1)]
            rw [if_neg (by decide : ¬ nI 3 = 2)]
            rw [if_pos (by decide : nI 3 = 3)]
            refine lp_fin ?_
            rw [il_eq w1 w2, show (5 : Int32).toInt = 5 from rfl]
            omega
          · rw [show nt_lo.getD 4 0 = 7 from rfl, show nt_hi.getD 4 0 = 7 from rfl]
            rw [if_neg (by decide : ¬ nI 4 = 0)]
            rw [if_neg (by decide : ¬ nI 4 = 1)]
            rw [if_neg (by decide : ¬ nI 4 = 2)]
            rw [if_neg (by decide : ¬ nI 4 = 3)]
            rw [if_pos (by decide : nI 4 = 4)]
            refine lp_fin ?_
            rw [il_eq w1 w2, show (7 : Int32).toInt = 7 from rfl]
            omega
          · rw [show nt_lo.getD 5 0 = 8 from rfl, show nt_hi.getD 5 0 = 9 from rfl]
            rw [if_neg (by decide : ¬ nI 5 = 0)]
            rw [if_neg (by decide : ¬ nI 5 = 1)]
            rw [if_neg (by decide : ¬ nI 5 = 2)]
            rw [if_neg (by decide : ¬ nI 5 = 3)]
            rw [if_neg (by decide : ¬ nI 5 = 4)]
            rw [if_pos (by decide : nI 5 = 5)]
            refine lp_fin ?_
            rw [decide_eq_true_iff, li_le w1 w2, il_le w1 w2, show (8 : Int32).toInt = 8 from rfl, show (9 : Int32).toInt = 9 from rfl]
            omega
          · rw [show nt_lo.getD 6 0 = 10 from rfl, show nt_hi.getD 6 0 = 11 from rfl]
            rw [if_neg (by decide : ¬ nI 6 = 0)]
            rw [if_neg (by decide : ¬ nI 6 = 1)]
            rw [if_neg (by decide : ¬ nI 6 = 2)]
            rw [if_neg (by decide : ¬ nI 6 = 3)]
            rw [if_neg (by decide : ¬ nI 6 = 4)]
            rw [if_neg (by decide : ¬ nI 6 = 5)]
            refine lp_fin ?_
            rw [decide_eq_true_iff, li_le w1 w2, il_le w1 w2, show (10 : Int32).toInt = 10 from rfl, show (11 : Int32).toInt = 11 from rfl]
            omega
theorem yr_leaps (hY : sp_Y K R y) (hA : yr_at I y n c X) {a m m' : Nat} (ha : a < n) (hm : m < c) (hm' : m' < c) : f_X7_leaps fu y (nI a) (nI m) (nI m') (K, I, R, N) = some (bI (nt_lp (X m a) (X m' a)), (K, I, R, N)) := by
  have h5 := hA.1
  have h6 := hA.2.1
  simp only [f_X7_leaps, pu_is hY.k, Option.bind_some, yr_moves hY hA ha hm hm', bI_ite, pu_vn0, if_true, yr_f hY (show a < 5 by omega) (show m < 120 by omega), yr_f hY (show a < 5 by omega) (show m' < 120 by omega), pu_gr hY.k hY.f3.1]
  rcases hA.2.2 a ha m hm with ⟨o, e⟩ | ⟨q, k, o, hq, hk, e, h3, h4⟩
  · rw [o]
    rfl
  · rcases hA.2.2 a ha m' hm' with ⟨o', e'⟩ | ⟨r, k', o', hr, hk', e', h3', h4'⟩
    · rw [o, o']
      rfl
    · have b3 := hq.1
      have b4 := hr.1
      simp only [pu_is hY.k, yr_f hY (show a < 5 by omega) (show m < 120 by omega), yr_f hY (show a < 5 by omega) (show m' < 120 by omega), e, e', o, o', nt_lp, Option.bind_some, pu_gr hY.k hY.f3.1, yr_s hY hk, yr_s hY hk', h3, h3']
      by_cases hv : nt_mv (some q) (some r) = true
      · rw [if_pos hv, hv, Bool.true_and]
        by_cases hle : q.1 ≤ r.1
        · rw [if_pos (nI_le hle (by omega)), if_pos hle]
          exact yr_leap0 hY hk hk' hq hr h3 h4 h3' h4' hle
        · rw [if_neg (nI_ge (by omega) (by omega)), if_neg hle]
          exact yr_leap0 hY hk' hk hr hq h3' h4' h3 h4 (by omega)
      · rw [if_neg hv]
        have : nt_mv (some q) (some r) = false := by
          cases hq : nt_mv (some q) (some r)
          · rfl
          · exact absurd hq hv
        rw [this]
        rfl
theorem yr_cross (hY : sp_Y K R y) (hA : yr_at I y n c X) {a b m m' : Nat} (ha : a < n) (hb : b < n) (hm : m < c) (hm' : m' < c) : f_X7_crosses fu y (nI a) (nI b) (nI m) (nI m') (K, I, R, N) = some (bI (nt_cr (X m a) (X m' b) (X m' a)), (K, I, R, N)) := by
  have h5 := hA.1
  have h6 := hA.2.1
  simp only [f_X7_crosses, f_X7_crosses_B69, f_X7_crosses_B126, f_X7_crosses_B131, pu_is hY.k, Option.bind_some, pu_vn0, pu_vn1, if_true, yr_f hY (show a < 5 by omega) (show m < 120 by omega), yr_f hY (show b < 5 by omega) (show m' < 120 by omega), yr_f hY (show a < 5 by omega) (show m' < 120 by omega), pu_gr hY.k hY.f3.1, pu_gr hY.k hY.f4.1]
  rcases hA.2.2 a ha m hm with ⟨o, e⟩ | ⟨q, k, o, hq, hk, e, h3, h4⟩
  · rw [o, e, if_pos rfl]
    rfl
  · rcases hA.2.2 b hb m' hm' with ⟨o', e'⟩ | ⟨r, k', o', hr, hk', e', h3', h4'⟩
    · rw [o, o', e, e', if_neg (nI_m1 hk), if_pos rfl]
      rfl
    · have b3 := hq.1
      have b4 := hr.1
      have b5 := hq.2
      have b6 := hr.2
      rw [o, o', e, e', if_neg (nI_m1 hk), if_neg (nI_m1 hk')]
      simp only [yr_s hY hk, yr_s hY hk', yr_x hY hk, yr_x hY hk', h3, h3', h4, h4', Option.bind_some, ht_rm hq.1, ht_rm hr.1]
      by_cases c1 : q.1 % 7 = r.1 % 7
      · rw [if_pos (by rw [c1])]
        by_cases c2 : q.2 = r.2
        · rw [if_pos (by rw [c2])]
          simp [nt_cr, c2, bI]
        · rw [if_neg (fun w => c2 ((iI_eq (by omega) (by omega) (by omega) (by omega)).mp w))]
          rcases hA.2.2 a ha m' hm' with ⟨o2, e2⟩ | ⟨t, k2, o2, ht, hk2, e2, h32, h42⟩
          · rw [o2, e2, if_pos rfl]
            simp [nt_cr, c1, c2, bI]
          · have b7 := ht.1
            have b8 := ht.2
            rw [o2, e2, if_neg (nI_m1 hk2)]
            simp only [yr_s hY hk2, yr_x hY hk2, h32, h42, Option.bind_some, ht_rm ht.1]
            by_cases c3 : t.1 % 7 = r.1 % 7
            · rw [if_pos (by rw [c3])]
              by_cases c4 : t.2 = r.2
              · rw [if_pos (by rw [c4])]
                simp [nt_cr, c3, c4, bI]
              · rw [if_neg (fun w => c4 ((iI_eq (by omega) (by omega) (by omega) (by omega)).mp w))]
                simp [nt_cr, c1, c2, c4, bI]
            · rw [if_neg (fun w => c3 ((nI_eq (by omega) (by omega)).mp w))]
              simp [nt_cr, c1, c2, c3, bI]
      · rw [if_neg (fun w => c1 ((nI_eq (by omega) (by omega)).mp w))]
        simp [nt_cr, c1, bI]
end YR2
