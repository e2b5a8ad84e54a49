/-! the reference: is a pair broken? -/
theorem iI_eqs {a b : Int} (h1 : -1000 ≤ a) (h2 : a ≤ 1000) (h3 : -1000 ≤ b) (h4 : b ≤ 1000) : iI a = iI b ↔ a = b := iI_eq (by omega) (by omega) (by omega) (by omega)
section YP
variable {K : Nat → Nat × Nat} {I : Nat → Nat → Int32} {R : Nat → Nat → Option Nat} {N fu y n c : Nat} {X : Nat → Nat → Option nt_T} {ky : Int}
theorem yp_0 (hY : sp_Y K R y) (hA : yr_at I y n c X) {a b m m' : Nat} (ha : a < n) (hb : b < n) (hm : m < c) (hm' : m' < c) : f_X7_isPairBroken fu y (nI 0) (nI a) (nI b) (nI m) (nI m') (K, I, R, N) = some (bI (decide (nt_way (X m a) (X m' a) * nt_way (X m b) (X m' b) = 1 ∧ (nt_q (X m a) (X m b) = 1 ∨ nt_q (X m a) (X m b) = 2) ∧ nt_q (X m a) (X m b) = nt_q (X m' a) (X m' b))), (K, I, R, N)) := by
  have h5 := hA.1
  have h6 := hA.2.1
  have q1 := nt_qb (X m a) (X m b)
  have q2 := nt_qb (X m' a) (X m' b)
  unfold f_X7_isPairBroken
  rw [if_pos (by decide : nI 0 = 0)]
  simp only [f_X7_isPairBroken_B120, f_X7_isPairBroken_B119, f_X7_isPairBroken_B183, f_X7_isPairBroken_B182, f_X7_isPairBroken_B231, f_X7_isPairBroken_B276, f_X7_isPairBroken_B271, f_X7_isPairBroken_B356, f_X7_isPairBroken_B355, f_X7_isPairBroken_B351, f_X7_isPairBroken_B454, f_X7_isPairBroken_B453, f_X7_isPairBroken_B449, f_X7_isPairBroken_B548, f_X7_isPairBroken_B547, f_X7_isPairBroken_B602, f_X7_isPairBroken_B601, pu_is hY.k, Option.bind_some, bI_ite, pu_vn0, pu_vn1, if_true, decide_eq_true_eq, yr_which hY hA ha hb hm, yr_which hY hA ha hb hm', yr_alike hY hA ha hb hm hm', yr_way hY hA ha hm hm', yr_way hY hA hb hm hm', yr_pure]
  simp only [il_eq (show -1000 ≤ nt_q (X m a) (X m b) by omega) (show nt_q (X m a) (X m b) ≤ 1000 by omega), ii_t (show -1000 ≤ nt_q (X m a) (X m b) by omega) (show nt_q (X m a) (X m b) ≤ 1000 by omega), ii_t (show -1000 ≤ nt_q (X m' a) (X m' b) by omega) (show nt_q (X m' a) (X m' b) ≤ 1000 by omega), iI_eqs (show -1000 ≤ nt_q (X m a) (X m b) by omega) (show nt_q (X m a) (X m b) ≤ 1000 by omega) (show -1000 ≤ nt_q (X m' a) (X m' b) by omega) (show nt_q (X m' a) (X m' b) ≤ 1000 by omega), show (0 : Int32).toInt = 0 from rfl, show (1 : Int32).toInt = 1 from rfl, show (2 : Int32).toInt = 2 from rfl, show (3 : Int32).toInt = 3 from rfl, show (6 : Int32).toInt = 6 from rfl]
  by_cases c1 : nt_way (X m a) (X m' a) * nt_way (X m b) (X m' b) = 1
  · rw [if_pos c1]
    by_cases c2 : nt_q (X m a) (X m b) = 1 ∨ nt_q (X m a) (X m b) = 2
    · rw [if_pos c2]
      by_cases c3 : nt_q (X m a) (X m b) = nt_q (X m' a) (X m' b)
      · rw [if_pos c3, decide_eq_true ⟨c1, c2, c3⟩]
        rfl
      · rw [if_neg c3, decide_eq_false (fun w => c3 w.2.2)]
        rfl
    · rw [if_neg c2, decide_eq_false (fun w => c2 w.2.1)]
      rfl
  · rw [if_neg c1, decide_eq_false (fun w => c1 w.1)]
    rfl
theorem yp_1 (hY : sp_Y K R y) (hA : yr_at I y n c X) {a b m m' : Nat} (ha : a < n) (hb : b < n) (hm : m < c) (hm' : m' < c) : f_X7_isPairBroken fu y (nI 1) (nI a) (nI b) (nI m) (nI m') (K, I, R, N) = some (bI (decide (nt_way (X m a) (X m' a) * nt_way (X m b) (X m' b) = -1 ∧ (nt_q (X m a) (X m b) = 1 ∨ nt_q (X m a) (X m b) = 2) ∧ nt_q (X m a) (X m b) = nt_q (X m' a) (X m' b))), (K, I, R, N)) := by
  have h5 := hA.1
  have h6 := hA.2.1
  have q1 := nt_qb (X m a) (X m b)
  have q2 := nt_qb (X m' a) (X m' b)
  unfold f_X7_isPairBroken
  rw [if_neg (by decide : ¬ nI 1 = 0)]
  rw [if_pos (by decide : nI 1 = 1)]
  have wb : -1000 ≤ nt_way (X m a) (X m' a) * nt_way (X m b) (X m' b) ∧ nt_way (X m a) (X m' a) * nt_way (X m b) (X m' b) ≤ 1000 := by
    rcases nt_wayb (X m a) (X m' a) with w | w | w <;> rcases nt_wayb (X m b) (X m' b) with w' | w' | w' <;> rw [w, w'] <;> decide
  simp only [f_X7_isPairBroken_B120, f_X7_isPairBroken_B119, f_X7_isPairBroken_B183, f_X7_isPairBroken_B182, f_X7_isPairBroken_B231, f_X7_isPairBroken_B276, f_X7_isPairBroken_B271, f_X7_isPairBroken_B356, f_X7_isPairBroken_B355, f_X7_isPairBroken_B351, f_X7_isPairBroken_B454, f_X7_isPairBroken_B453, f_X7_isPairBroken_B449, f_X7_isPairBroken_B548, f_X7_isPairBroken_B547, f_X7_isPairBroken_B602, f_X7_isPairBroken_B601, pu_is hY.k, Option.bind_some, bI_ite, pu_vn0, pu_vn1, if_true, decide_eq_true_eq, yr_which hY hA ha hb hm, yr_which hY hA ha hb hm', yr_alike hY hA ha hb hm hm', yr_way hY hA ha hm hm', yr_way hY hA hb hm hm', yr_pure, iI_mul]
  simp only [il_eq wb.1 wb.2, show (-1 : Int32).toInt = -1 from rfl, il_eq (show -1000 ≤ nt_q (X m a) (X m b) by omega) (show nt_q (X m a) (X m b) ≤ 1000 by omega), ii_t (show -1000 ≤ nt_q (X m a) (X m b) by omega) (show nt_q (X m a) (X m b) ≤ 1000 by omega), ii_t (show -1000 ≤ nt_q (X m' a) (X m' b) by omega) (show nt_q (X m' a) (X m' b) ≤ 1000 by omega), iI_eqs (show -1000 ≤ nt_q (X m a) (X m b) by omega) (show nt_q (X m a) (X m b) ≤ 1000 by omega) (show -1000 ≤ nt_q (X m' a) (X m' b) by omega) (show nt_q (X m' a) (X m' b) ≤ 1000 by omega), show (0 : Int32).toInt = 0 from rfl, show (1 : Int32).toInt = 1 from rfl, show (2 : Int32).toInt = 2 from rfl, show (3 : Int32).toInt = 3 from rfl, show (6 : Int32).toInt = 6 from rfl]
  by_cases c1 : nt_way (X m a) (X m' a) * nt_way (X m b) (X m' b) = -1
  · rw [if_pos c1]
    by_cases c2 : nt_q (X m a) (X m b) = 1 ∨ nt_q (X m a) (X m b) = 2
    · rw [if_pos c2]
      by_cases c3 : nt_q (X m a) (X m b) = nt_q (X m' a) (X m' b)
      · rw [if_pos c3, decide_eq_true ⟨c1, c2, c3⟩]
        rfl
      · rw [if_neg c3, decide_eq_false (fun w => c3 w.2.2)]
        rfl
    · rw [if_neg c2, decide_eq_false (fun w => c2 w.2.1)]
      rfl
  · rw [if_neg c1, decide_eq_false (fun w => c1 w.1)]
    rfl
theorem yp_12 (hY : sp_Y K R y) (hA : yr_at I y n c X) {a b m m' : Nat} (ha : a < n) (hb : b < n) (hm : m < c) (hm' : m' < c) : f_X7_isPairBroken fu y (nI 12) (nI a) (nI b) (nI m) (nI m') (K, I, R, N) = some (bI (decide (nt_way (X m a) (X m' a) * nt_way (X m b) (X m' b) = 1 ∧ nt_q (X m a) (X m b) ≠ 3 ∧ nt_q (X m' a) (X m' b) = 3)), (K, I, R, N)) := by
  have h5 := hA.1
  have h6 := hA.2.1
  have q1 := nt_qb (X m a) (X m b)
  have q2 := nt_qb (X m' a) (X m' b)
  unfold f_X7_isPairBroken
  rw [if_neg (by decide : ¬ nI 12 = 0)]
  rw [if_neg (by decide : ¬ nI 12 = 1)]
  rw [if_neg (by decide : ¬ nI 12 = 2)]
  rw [if_neg (by decide : ¬ nI 12 = 3)]
  rw [if_neg (by decide : ¬ nI 12 = 4)]
  rw [if_neg (by decide : ¬ nI 12 = 5)]
  rw [if_neg (by decide : ¬ nI 12 = 6)]
  rw [if_neg (by decide : ¬ nI 12 = 7)]
  rw [if_neg (by decide : ¬ nI 12 = 8)]
  rw [if_neg (by decide : ¬ nI 12 = 9)]
  rw [if_neg (by decide : ¬ nI 12 = 10)]
  rw [if_neg (by decide : ¬ nI 12 = 11)]
  rw [if_pos (by decide : nI 12 = 12)]
  simp only [f_X7_isPairBroken_B120, f_X7_isPairBroken_B119, f_X7_isPairBroken_B183, f_X7_isPairBroken_B182, f_X7_isPairBroken_B231, f_X7_isPairBroken_B276, f_X7_isPairBroken_B271, f_X7_isPairBroken_B356, f_X7_isPairBroken_B355, f_X7_isPairBroken_B351, f_X7_isPairBroken_B454, f_X7_isPairBroken_B453, f_X7_isPairBroken_B449, f_X7_isPairBroken_B548, f_X7_isPairBroken_B547, f_X7_isPairBroken_B602, f_X7_isPairBroken_B601, pu_is hY.k, Option.bind_some, bI_ite, pu_vn0, pu_vn1, if_true, decide_eq_true_eq, yr_which hY hA ha hb hm, yr_which hY hA ha hb hm', yr_alike hY hA ha hb hm hm', yr_way hY hA ha hm hm', yr_way hY hA hb hm hm', yr_pure]
  simp only [il_eq (show -1000 ≤ nt_q (X m a) (X m b) by omega) (show nt_q (X m a) (X m b) ≤ 1000 by omega), il_eq (show -1000 ≤ nt_q (X m' a) (X m' b) by omega) (show nt_q (X m' a) (X m' b) ≤ 1000 by omega), show (0 : Int32).toInt = 0 from rfl, show (1 : Int32).toInt = 1 from rfl, show (2 : Int32).toInt = 2 from rfl, show (3 : Int32).toInt = 3 from rfl, show (6 : Int32).toInt = 6 from rfl]
  by_cases c1 : nt_way (X m a) (X m' a) * nt_way (X m b) (X m' b) = 1
  · rw [if_pos c1]
    by_cases c2 : nt_q (X m a) (X m b) = 3
    · rw [if_pos c2, decide_eq_false (fun w => w.2.1 c2)]
      rfl
    · rw [if_neg c2]
      by_cases c3 : nt_q (X m' a) (X m' b) = 3
      · rw [if_pos c3, decide_eq_true ⟨c1, c2, c3⟩]
        rfl
      · rw [if_neg c3, decide_eq_false (fun w => c3 w.2.2)]
        rfl
  · rw [if_neg c1, decide_eq_false (fun w => c1 w.1)]
    rfl
theorem yp_11 (hY : sp_Y K R y) (hA : yr_at I y n c X) {a b m m' : Nat} (ha : a < n) (hb : b < n) (hm : m < c) (hm' : m' < c) : f_X7_isPairBroken fu y (nI 11) (nI a) (nI b) (nI m) (nI m') (K, I, R, N) = some (bI (nt_cr (X m a) (X m' b) (X m' a)), (K, I, R, N)) := by
  unfold f_X7_isPairBroken
  rw [if_neg (by decide : ¬ nI 11 = 0)]
  rw [if_neg (by decide : ¬ nI 11 = 1)]
  rw [if_neg (by decide : ¬ nI 11 = 2)]
  rw [if_neg (by decide : ¬ nI 11 = 3)]
  rw [if_neg (by decide : ¬ nI 11 = 4)]
  rw [if_neg (by decide : ¬ nI 11 = 5)]
  rw [if_neg (by decide : ¬ nI 11 = 6)]
  rw [if_neg (by decide : ¬ nI 11 = 7)]
  rw [if_neg (by decide : ¬ nI 11 = 8)]
  rw [if_neg (by decide : ¬ nI 11 = 9)]
  rw [if_neg (by decide : ¬ nI 11 = 10)]
  rw [if_pos (by decide : nI 11 = 11)]
  simp only [pu_is hY.k, Option.bind_some, yr_cross hY hA ha hb hm hm', bI_vn, if_true]
theorem yp_7 (hY : sp_Y K R y) (hA : yr_at I y n c X) {a m m' : Nat} (ha : a < n) (hm : m < c) (hm' : m' < c) (B : Int32) : f_X7_isPairBroken fu y (nI 7) (nI a) B (nI m) (nI m') (K, I, R, N) = some (bI (nt_lp (X m a) (X m' a)), (K, I, R, N)) := by
  unfold f_X7_isPairBroken
  rw [if_neg (by decide : ¬ nI 7 = 0)]
  rw [if_neg (by decide : ¬ nI 7 = 1)]
  rw [if_neg (by decide : ¬ nI 7 = 2)]
  rw [if_neg (by decide : ¬ nI 7 = 3)]
  rw [if_neg (by decide : ¬ nI 7 = 4)]
  rw [if_neg (by decide : ¬ nI 7 = 5)]
  rw [if_neg (by decide : ¬ nI 7 = 6)]
  rw [if_pos (by decide : nI 7 = 7)]
  simp only [pu_is hY.k, Option.bind_some, yr_leaps hY hA ha hm hm', bI_vn, if_true]
theorem yp_2 (hY : sp_Y K R y) (hA : yr_at I y n c X) {a b m m' : Nat} (ha : a < n) (hb : b < n) (hm : m < c) (hm' : m' < c) : f_X7_isPairBroken fu y (nI 2) (nI a) (nI b) (nI m) (nI m') (K, I, R, N) = some (bI (decide (nt_way (X m a) (X m' a) * nt_way (X m b) (X m' b) = 1 ∧ (nt_q (X m' a) (X m' b) = 1 ∨ nt_q (X m' a) (X m' b) = 2) ∧ nt_q (X m a) (X m b) ≠ nt_q (X m' a) (X m' b)) && nt_jp (X m b) (X m' b)), (K, I, R, N)) := by
  have h5 := hA.1
  have h6 := hA.2.1
  have q1 := nt_qb (X m a) (X m b)
  have q2 := nt_qb (X m' a) (X m' b)
  unfold f_X7_isPairBroken
  rw [if_neg (by decide : ¬ nI 2 = 0)]
  rw [if_neg (by decide : ¬ nI 2 = 1)]
  rw [if_pos (by decide : nI 2 = 2)]
  simp only [f_X7_isPairBroken_B120, f_X7_isPairBroken_B119, f_X7_isPairBroken_B183, f_X7_isPairBroken_B182, f_X7_isPairBroken_B231, f_X7_isPairBroken_B276, f_X7_isPairBroken_B271, f_X7_isPairBroken_B356, f_X7_isPairBroken_B355, f_X7_isPairBroken_B351, f_X7_isPairBroken_B454, f_X7_isPairBroken_B453, f_X7_isPairBroken_B449, f_X7_isPairBroken_B548, f_X7_isPairBroken_B547, f_X7_isPairBroken_B602, f_X7_isPairBroken_B601, pu_is hY.k, Option.bind_some, bI_ite, pu_vn0, pu_vn1, if_true, decide_eq_true_eq, yr_which hY hA ha hb hm, yr_which hY hA ha hb hm', yr_alike hY hA ha hb hm hm', yr_way hY hA ha hm hm', yr_way hY hA hb hm hm', yr_pure, yr_f hY (show b < 5 by omega) (show m < 120 by omega), yr_f hY (show b < 5 by omega) (show m' < 120 by omega)]
  simp only [il_eq (show -1000 ≤ nt_q (X m' a) (X m' b) by omega) (show nt_q (X m' a) (X m' b) ≤ 1000 by omega), ii_t (show -1000 ≤ nt_q (X m a) (X m b) by omega) (show nt_q (X m a) (X m b) ≤ 1000 by omega), ii_t (show -1000 ≤ nt_q (X m' a) (X m' b) by omega) (show nt_q (X m' a) (X m' b) ≤ 1000 by omega), iI_eqs (show -1000 ≤ nt_q (X m a) (X m b) by omega) (show nt_q (X m a) (X m b) ≤ 1000 by omega) (show -1000 ≤ nt_q (X m' a) (X m' b) by omega) (show nt_q (X m' a) (X m' b) ≤ 1000 by omega), show (0 : Int32).toInt = 0 from rfl, show (1 : Int32).toInt = 1 from rfl, show (2 : Int32).toInt = 2 from rfl, show (3 : Int32).toInt = 3 from rfl, show (6 : Int32).toInt = 6 from rfl]
  by_cases c1 : nt_way (X m a) (X m' a) * nt_way (X m b) (X m' b) = 1
  · rw [if_pos c1]
    by_cases c2 : nt_q (X m' a) (X m' b) = 1 ∨ nt_q (X m' a) (X m' b) = 2
    · rw [if_pos c2]
      by_cases c3 : nt_q (X m a) (X m b) = nt_q (X m' a) (X m' b)
      · rw [if_pos c3, decide_eq_false (fun w => w.2.2 c3), Bool.false_and]
        rfl
      · rw [if_neg c3, decide_eq_true ⟨c1, c2, c3⟩, Bool.true_and]
        rcases hA.2.2 b hb m hm with ⟨o, e⟩ | ⟨q, k, o, hq, hk, e, h3, h4⟩
        · rw [o, show nt_way none (X m' b) = 0 from rfl, Int.mul_zero] at c1
          omega
        · rcases hA.2.2 b hb m' hm' with ⟨o', e'⟩ | ⟨r, k', o', hr, hk', e', h3', h4'⟩
          · rw [o, o', show nt_way (some q) none = 0 from rfl, Int.mul_zero] at c1
            omega
          · have b1 := nt_hb hq
            have b2 := nt_hb hr
            simp only [pu_is hY.k, Option.bind_some, yr_f hY (show b < 5 by omega) (show m < 120 by omega), yr_f hY (show b < 5 by omega) (show m' < 120 by omega), e, e', yr_h hY hk hq h3 h4, yr_h hY hk' hr h3' h4', iI_sub, ho_id, o, o', nt_jp]
            try simp only [pu_is hY.k, Option.bind_some, yr_f hY (show b < 5 by omega) (show m < 120 by omega), e, yr_h hY hk hq h3 h4, iI_sub]
            simp only [li_lt (show -1000 ≤ nt_h r - nt_h q by omega) (by omega), li_le (show -1000 ≤ nt_h r - nt_h q by omega) (by omega), show (2 : Int32).toInt = 2 from rfl, show (-2 : Int32).toInt = -2 from rfl]
            by_cases d1 : 2 < nt_h r - nt_h q
            · rw [if_pos d1, decide_eq_true (Or.inl d1)]
              rfl
            · rw [if_neg d1]
              by_cases d2 : -2 ≤ nt_h r - nt_h q
              · rw [if_pos d2, decide_eq_false (by omega)]
                rfl
              · rw [if_neg d2, decide_eq_true (Or.inr (by omega))]
                rfl
    · rw [if_neg c2, decide_eq_false (fun w => c2 w.2.1), Bool.false_and]
      rfl
  · rw [if_neg c1, decide_eq_false (fun w => c1 w.1), Bool.false_and]
    rfl
theorem yp_4 (hY : sp_Y K R y) (hA : yr_at I y n c X) {a b m m' : Nat} (ha : a < n) (hb : b < n) (hm : m < c) (hm' : m' < c) : f_X7_isPairBroken fu y (nI 4) (nI a) (nI b) (nI m) (nI m') (K, I, R, N) = some (bI (nt_go (X m a) (X m' a) && nt_go (X m b) (X m' b) && (nt_lt (X m b) (X m' a) || nt_lt (X m' b) (X m a))), (K, I, R, N)) := by
  have h5 := hA.1
  have h6 := hA.2.1
  unfold f_X7_isPairBroken
  rw [if_neg (by decide : ¬ nI 4 = 0)]
  rw [if_neg (by decide : ¬ nI 4 = 1)]
  rw [if_neg (by decide : ¬ nI 4 = 2)]
  rw [if_neg (by decide : ¬ nI 4 = 3)]
  rw [if_pos (by decide : nI 4 = 4)]
  simp only [f_X7_isPairBroken_B120, f_X7_isPairBroken_B119, f_X7_isPairBroken_B183, f_X7_isPairBroken_B182, f_X7_isPairBroken_B231, f_X7_isPairBroken_B276, f_X7_isPairBroken_B271, f_X7_isPairBroken_B356, f_X7_isPairBroken_B355, f_X7_isPairBroken_B351, f_X7_isPairBroken_B454, f_X7_isPairBroken_B453, f_X7_isPairBroken_B449, f_X7_isPairBroken_B548, f_X7_isPairBroken_B547, f_X7_isPairBroken_B602, f_X7_isPairBroken_B601, pu_is hY.k, Option.bind_some, bI_ite, pu_vn0, pu_vn1, if_true, yr_goes hY hA ha hm hm', yr_goes hY hA hb hm hm', yr_f hY (show a < 5 by omega) (show m < 120 by omega), yr_f hY (show a < 5 by omega) (show m' < 120 by omega), yr_f hY (show b < 5 by omega) (show m < 120 by omega), yr_f hY (show b < 5 by omega) (show m' < 120 by omega)]
  rcases hA.2.2 a ha m hm with ⟨o1, e1⟩ | ⟨p1, k1, o1, i1, j1, e1, s1, t1⟩
  · rw [o1]
    rfl
  · rcases hA.2.2 a ha m' hm' with ⟨o2, e2⟩ | ⟨p2, k2, o2, i2, j2, e2, s2, t2⟩
    · rw [o1, o2]
      rfl
    · rcases hA.2.2 b hb m hm with ⟨o3, e3⟩ | ⟨p3, k3, o3, i3, j3, e3, s3, t3⟩
      · rw [o1, o2, o3]
        rfl
      · rcases hA.2.2 b hb m' hm' with ⟨o4, e4⟩ | ⟨p4, k4, o4, i4, j4, e4, s4, t4⟩
        · rw [o1, o2, o3, o4]
          rfl
        · have b1 := nt_hb i1
          have b2 := nt_hb i2
          have b3 := nt_hb i3
          have b4 := nt_hb i4
          simp only [o1, o2, o3, o4, nt_go, nt_lt, if_true, Bool.true_and]
          simp only [pu_is hY.k, Option.bind_some, yr_f hY (show a < 5 by omega) (show m < 120 by omega), yr_f hY (show a < 5 by omega) (show m' < 120 by omega), yr_f hY (show b < 5 by omega) (show m < 120 by omega), yr_f hY (show b < 5 by omega) (show m' < 120 by omega), e1, e2, e3, e4, yr_h hY j1 i1 s1 t1, yr_h hY j2 i2 s2 t2, yr_h hY j3 i3 s3 t3, yr_h hY j4 i4 s4 t4]
          try simp only [pu_is hY.k, Option.bind_some, yr_f hY (show a < 5 by omega) (show m < 120 by omega), yr_f hY (show a < 5 by omega) (show m' < 120 by omega), yr_f hY (show b < 5 by omega) (show m < 120 by omega), yr_f hY (show b < 5 by omega) (show m' < 120 by omega), e1, e2, e3, e4, yr_h hY j1 i1 s1 t1, yr_h hY j2 i2 s2 t2, yr_h hY j3 i3 s3 t3, yr_h hY j4 i4 s4 t4]
          simp only [show (iI (nt_h p3) < iI (nt_h p2)) ↔ (nt_h p3 < nt_h p2) from iI_lt (by omega) (by omega) (by omega) (by omega), show (iI (nt_h p1) ≤ iI (nt_h p4)) ↔ (nt_h p1 ≤ nt_h p4) from iI_le (by omega) (by omega) (by omega) (by omega)]
          by_cases d1 : nt_h p3 < nt_h p2
          · rw [if_pos d1, decide_eq_true d1, Bool.true_or]
            rfl
          · rw [if_neg d1, decide_eq_false d1, Bool.false_or]
            by_cases d2 : nt_h p1 ≤ nt_h p4
            · rw [if_pos d2, decide_eq_false (by omega)]
              rfl
            · rw [if_neg d2, decide_eq_true (by omega)]
              rfl
theorem yp_8 (hY : sp_Y K R y) (hA : yr_at I y n c X) (hk8 : I y 8 = iI ky) (hy1 : -7 ≤ ky) (hy2 : ky ≤ 7) {a m m' : Nat} (ha : a < n) (hm : m < c) (hm' : m' < c) (B : Int32) : f_X7_isPairBroken fu y (nI 8) (nI a) B (nI m) (nI m') (K, I, R, N) = some (bI (nt_as ky (X m a) (X m' a)), (K, I, R, N)) := by
  have h5 := hA.1
  have h6 := hA.2.1
  unfold f_X7_isPairBroken
  rw [if_neg (by decide : ¬ nI 8 = 0)]
  rw [if_neg (by decide : ¬ nI 8 = 1)]
  rw [if_neg (by decide : ¬ nI 8 = 2)]
  rw [if_neg (by decide : ¬ nI 8 = 3)]
  rw [if_neg (by decide : ¬ nI 8 = 4)]
  rw [if_neg (by decide : ¬ nI 8 = 5)]
  rw [if_neg (by decide : ¬ nI 8 = 6)]
  rw [if_neg (by decide : ¬ nI 8 = 7)]
  rw [if_pos (by decide : nI 8 = 8)]
  simp only [f_X7_isPairBroken_B120, f_X7_isPairBroken_B119, f_X7_isPairBroken_B183, f_X7_isPairBroken_B182, f_X7_isPairBroken_B231, f_X7_isPairBroken_B276, f_X7_isPairBroken_B271, f_X7_isPairBroken_B356, f_X7_isPairBroken_B355, f_X7_isPairBroken_B351, f_X7_isPairBroken_B454, f_X7_isPairBroken_B453, f_X7_isPairBroken_B449, f_X7_isPairBroken_B548, f_X7_isPairBroken_B547, f_X7_isPairBroken_B602, f_X7_isPairBroken_B601, pu_is hY.k, Option.bind_some, bI_ite, pu_vn0, pu_vn1, if_true, yr_moves hY hA ha hm hm', yr_f hY (show a < 5 by omega) (show m < 120 by omega), yr_f hY (show a < 5 by omega) (show m' < 120 by omega), yr_lead hY hk8 hy1 hy2 (hA.2.2 a ha m hm), pu_gr hY.k hY.f3.1]
  rcases hA.2.2 a ha m hm with ⟨o1, e1⟩ | ⟨q, k1, o1, i1, j1, e1, s1, t1⟩
  · rw [o1]
    rfl
  · rcases hA.2.2 a ha m' hm' with ⟨o2, e2⟩ | ⟨r, k2, o2, i2, j2, e2, s2, t2⟩
    · rw [o1, o2]
      rfl
    · have b1 := nt_hb i1
      have b2 := nt_hb i2
      have b3 := i1.1
      have b4 := i2.1
      have hld := yr_lead (fu := fu) (N := N) hY hk8 hy1 hy2 (hA.2.2 a ha m hm)
      simp only [e1, o1] at hld
      simp only [o1, o2, nt_as, pu_is hY.k, Option.bind_some, yr_f hY (show a < 5 by omega) (show m < 120 by omega), yr_f hY (show a < 5 by omega) (show m' < 120 by omega), e1, e2, hld, bI_ite, pu_gr hY.k hY.f3.1, yr_s hY j1, yr_s hY j2, s1, s2, nI_1, yr_h hY j1 i1 s1 t1, yr_h hY j2 i2 s2 t2]
      cases hv : nt_mv (some q) (some r)
      · rw [if_neg (by decide)]
        rfl
      · rw [if_pos rfl]
        cases hl : nt_ld ky (some q)
        · rw [if_neg (by decide)]
          rfl
        · rw [if_pos rfl, Bool.true_and, Bool.true_and]
          try simp only [pu_is hY.k, Option.bind_some, yr_f hY (show a < 5 by omega) (show m < 120 by omega), yr_f hY (show a < 5 by omega) (show m' < 120 by omega), e1, e2, yr_h hY j1 i1 s1 t1, yr_h hY j2 i2 s2 t2]
          have w : iI (nt_h q) + 1 = iI (nt_h q + 1) := by rw [show (1 : Int32) = iI 1 from rfl, iI_add]
          rw [w]
          by_cases d1 : r.1 = q.1 + 1
          · rw [if_pos (by rw [d1])]
            by_cases d2 : nt_h r = nt_h q + 1
            · rw [if_pos (by rw [d2]), decide_eq_false (fun w => w ⟨d1, d2⟩)]
              rfl
            · rw [if_neg (fun w => d2 ((iI_eq (by omega) (by omega) (by omega) (by omega)).mp w)), decide_eq_true (show ¬ (r.1 = q.1 + 1 ∧ nt_h r = nt_h q + 1) from fun w => d2 w.2)]
              rfl
          · rw [if_neg (fun w => d1 ((nI_eq (by omega) (by omega)).mp w)), decide_eq_true (show ¬ (r.1 = q.1 + 1 ∧ nt_h r = nt_h q + 1) from fun w => d1 w.1)]
            rfl
theorem yp_10 (hY : sp_Y K R y) (hA : yr_at I y n c X) {a m m' : Nat} (ha : a < n) (hm : m < c) (hm' : m' < c) (B : Int32) : f_X7_isPairBroken fu y (nI 10) (nI a) B (nI m) (nI m') (K, I, R, N) = some (bI (nt_sv (X m 0) (X m a) (X m' a)), (K, I, R, N)) := by
  have h5 := hA.1
  have h6 := hA.2.1
  unfold f_X7_isPairBroken
  rw [if_neg (by decide : ¬ nI 10 = 0)]
  rw [if_neg (by decide : ¬ nI 10 = 1)]
  rw [if_neg (by decide : ¬ nI 10 = 2)]
  rw [if_neg (by decide : ¬ nI 10 = 3)]
  rw [if_neg (by decide : ¬ nI 10 = 4)]
  rw [if_neg (by decide : ¬ nI 10 = 5)]
  rw [if_neg (by decide : ¬ nI 10 = 6)]
  rw [if_neg (by decide : ¬ nI 10 = 7)]
  rw [if_neg (by decide : ¬ nI 10 = 8)]
  rw [if_neg (by decide : ¬ nI 10 = 9)]
  rw [if_pos (by decide : nI 10 = 10)]
  have z0 : f_X7_at fu y 0 (nI m) (K, I, R, N) = some (I (y + 13) (120 * 0 + m), (K, I, R, N)) := yr_f hY (show 0 < 5 by omega) (show m < 120 by omega)
  simp only [f_X7_isPairBroken_B120, f_X7_isPairBroken_B119, f_X7_isPairBroken_B183, f_X7_isPairBroken_B182, f_X7_isPairBroken_B231, f_X7_isPairBroken_B276, f_X7_isPairBroken_B271, f_X7_isPairBroken_B356, f_X7_isPairBroken_B355, f_X7_isPairBroken_B351, f_X7_isPairBroken_B454, f_X7_isPairBroken_B453, f_X7_isPairBroken_B449, f_X7_isPairBroken_B548, f_X7_isPairBroken_B547, f_X7_isPairBroken_B602, f_X7_isPairBroken_B601, pu_is hY.k, Option.bind_some, bI_ite, pu_vn0, pu_vn1, if_true, yr_moves hY hA ha hm hm', yr_f hY (show a < 5 by omega) (show m < 120 by omega), yr_f hY (show a < 5 by omega) (show m' < 120 by omega), z0, pu_gr hY.k hY.f3.1]
  rcases hA.2.2 a ha m hm with ⟨o1, e1⟩ | ⟨q, k1, o1, i1, j1, e1, s1, t1⟩
  · rw [o1]
    cases X m 0 <;> rfl
  · rcases hA.2.2 a ha m' hm' with ⟨o2, e2⟩ | ⟨r, k2, o2, i2, j2, e2, s2, t2⟩
    · rw [o1, o2]
      cases X m 0 <;> rfl
    · have b3 := i1.1
      have b4 := i2.1
      rcases hA.2.2 0 (by omega) m hm with ⟨o3, e3⟩ | ⟨p, k3, o3, i3, j3, e3, s3, t3⟩
      · rw [o3, e3, if_pos rfl]
        split <;> rfl
      · have b5 := i3.1
        rw [o3, e3, if_neg (nI_m1 j3)]
        simp only [o1, o2, nt_sv, pu_is hY.k, Option.bind_some, yr_f hY (show a < 5 by omega) (show m < 120 by omega), yr_f hY (show a < 5 by omega) (show m' < 120 by omega), z0, e1, e2, e3, bI_ite, pu_gr hY.k hY.f3.1, yr_s hY j1, yr_s hY j2, yr_s hY j3, s1, s2, s3]
        cases hv : nt_mv (some q) (some r)
        · rw [if_neg (by decide)]
          rfl
        · rw [if_pos rfl, Bool.true_and]
          have hs : nI q.1 - nI p.1 = iI ((q.1 : Int) - p.1) := by rw [iI_nat, iI_nat, iI_sub]
          have hs2 : nI q.1 - 1 = iI ((q.1 : Int) - 1) := by rw [iI_nat, show (1 : Int32) = iI 1 from rfl, iI_sub]
          rw [hs, md_7 _ _ (by omega) (by omega), Option.bind_some]
          simp only [pu_is hY.k, Option.bind_some, pu_gr hY.k hY.f3.1, yr_f hY (show a < 5 by omega) (show m < 120 by omega), yr_f hY (show a < 5 by omega) (show m' < 120 by omega), z0, e1, e2, yr_s hY j1, yr_s hY j2, s1, s2, hs2]
          simp only [show (iI (((q.1 : Int) - p.1) % 7) = 6) ↔ (((q.1 : Int) - p.1) % 7 = 6) from il_eq (by omega) (by omega)]
          by_cases d1 : ((q.1 : Int) - p.1) % 7 = 6
          · rw [if_pos d1, iI_nat]
            by_cases d2 : (r.1 : Int) = (q.1 : Int) - 1
            · rw [if_pos (by rw [d2]), decide_eq_false (fun w => w.2 d2)]
              rfl
            · rw [if_neg (fun w => d2 ((iI_eq (by omega) (by omega) (by omega) (by omega)).mp w)), decide_eq_true ⟨d1, d2⟩]
              rfl
          · rw [if_neg d1, decide_eq_false (fun w => d1 w.1)]
            rfl
end YP
