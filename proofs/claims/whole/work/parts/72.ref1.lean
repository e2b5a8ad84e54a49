/-! the reference's questions about notes -/
def yr_e (J : Nat → Nat → Int32) (y : Nat) (e : Int32) (o : Option nt_T) : Prop := (o = none ∧ e = -1) ∨ ∃ q k, o = some q ∧ nt_ok q ∧ k < 120 ∧ e = nI k ∧ J (y + 3) k = nI q.1 ∧ J (y + 4) k = iI q.2
def yr_at (J : Nat → Nat → Int32) (y n c : Nat) (X : Nat → Nat → Option nt_T) : Prop := n ≤ 5 ∧ c ≤ 120 ∧ ∀ v, v < n → ∀ m, m < c → yr_e J y (J (y + 13) (120 * v + m)) (X m v)
theorem nI_m1 {k : Nat} (hk : k < 120) : ¬ nI k = -1 := by
  intro q
  have := congrArg Int32.toInt q
  rw [nI_toInt (by omega), show (-1 : Int32).toInt = -1 from rfl] at this
  omega
theorem nI_mj {k : Nat} (hk : k < 120) : ¬ (-1 : Int32) = nI k := fun q => nI_m1 hk q.symm
section YR
variable {K : Nat → Nat × Nat} {I : Nat → Nat → Int32} {R : Nat → Nat → Option Nat} {N fu y n c : Nat} {X : Nat → Nat → Option nt_T} {ky : Int}
theorem yr_f (hY : sp_Y K R y) {v m : Nat} (hv : v < 5) (hm : m < 120) : f_X7_at fu y (nI v) (nI m) (K, I, R, N) = some (I (y + 13) (120 * v + m), (K, I, R, N)) := by
  simp only [f_X7_at, pu_gr hY.k hY.f18.1, Option.bind_some, lr_ix2, pu_li hY.f18.2 (show 120 * v + m < 600 by omega) (by decide)]
theorem yr_s (hY : sp_Y K R y) {k : Nat} (hk : k < 120) : ho_li 1 (y + 3) (nI k) (K, I, R, N) = some (I (y + 3) k) := pu_li hY.f3.2 hk (by decide)
theorem yr_x (hY : sp_Y K R y) {k : Nat} (hk : k < 120) : ho_li 1 (y + 4) (nI k) (K, I, R, N) = some (I (y + 4) k) := pu_li hY.f4.2 hk (by decide)
theorem yr_h (hY : sp_Y K R y) {k : Nat} {q : nt_T} (hk : k < 120) (hq : nt_ok q) (h3 : I (y + 3) k = nI q.1) (h4 : I (y + 4) k = iI q.2) : f_X7_heightOf fu y (nI k) (K, I, R, N) = some (iI (nt_h q), (K, I, R, N)) := by
  rw [ht_y hY hk hq.1 h3, h4, nt_hN]
theorem yr_up (hY : sp_Y K R y) (hA : yr_at I y n c X) {a b m : Nat} (ha : a < n) (hb : b < n) (hm : m < c) (h : nt_go (X m a) (X m b) = true) : f_X7_betweenHeights fu y (nI a) (nI b) (nI m) (K, I, R, N) = some (iI (nt_up (X m a) (X m b)), (K, I, R, N)) := by
  have h5 := hA.1
  have h6 := hA.2.1
  rcases hA.2.2 a ha m hm with ⟨o, e⟩ | ⟨q, k, o, hq, hk, e, h3, h4⟩
  · rw [o] at h
    exact absurd h (by simp [nt_go])
  · rcases hA.2.2 b hb m hm with ⟨o', e'⟩ | ⟨r, k', o', hr, hk', e', h3', h4'⟩
    · rw [o, o'] at h
      exact absurd h (by simp [nt_go])
    · unfold f_X7_betweenHeights
      rw [pu_is hY.k, Option.bind_some, yr_f hY (by omega) (by omega), e', Option.bind_some]
      simp only [pu_is hY.k, Option.bind_some, yr_h hY hk' hr h3' h4', yr_f hY (show a < 5 by omega) (show m < 120 by omega), e, yr_h hY hk hq h3 h4, iI_sub, o, o']
      rfl
theorem yr_which (hY : sp_Y K R y) (hA : yr_at I y n c X) {a b m : Nat} (ha : a < n) (hb : b < n) (hm : m < c) : f_X7_which fu y (nI a) (nI b) (nI m) (K, I, R, N) = some (iI (nt_q (X m a) (X m b)), (K, I, R, N)) := by
  have h5 := hA.1
  have h6 := hA.2.1
  rcases hA.2.2 a ha m hm with ⟨o, e⟩ | ⟨q, k, o, hq, hk, e, h3, h4⟩
  · simp only [f_X7_which, f_X7_which_B20, pu_is hY.k, Option.bind_some, yr_f hY (show a < 5 by omega) (show m < 120 by omega), e, if_true, o]
    rfl
  · rcases hA.2.2 b hb m hm with ⟨o', e'⟩ | ⟨r, k', o', hr, hk', e', h3', h4'⟩
    · simp only [f_X7_which, f_X7_which_B20, pu_is hY.k, Option.bind_some, yr_f hY (show a < 5 by omega) (show m < 120 by omega), yr_f hY (show b < 5 by omega) (show m < 120 by omega), e, e', if_true, o, o', if_neg (nI_m1 hk)]
      rfl
    · have b1 := nt_hb hq
      have b2 := nt_hb hr
      have b3 := hq.1
      have b4 := hr.1
      have hup := yr_up (fu := fu) (N := N) hY hA ha hb hm (by rw [o, o']; rfl)
      rw [o, o'] at hup
      have hs : nI r.1 - nI q.1 = iI ((r.1 : Int) - q.1) := by rw [iI_nat, iI_nat, iI_sub]
      simp only [f_X7_which, pu_is hY.k, Option.bind_some, yr_f hY (show a < 5 by omega) (show m < 120 by omega), yr_f hY (show b < 5 by omega) (show m < 120 by omega), e, e', if_neg (nI_m1 hk), if_neg (nI_m1 hk'), pu_gr hY.k hY.f3.1, yr_s hY hk, yr_s hY hk', h3, h3', hs, o, o', hup]
      have hh : nt_up (some q) (some r) = nt_h r - nt_h q := rfl
      rw [md_7 _ _ (by omega) (by omega), Option.bind_some]
      simp only [hup, pu_is hY.k, Option.bind_some, hh]
      rw [md_12 _ _ (by omega) (by omega), Option.bind_some]
      simp only [f_X7_which_B81, f_X7_which_B96, f_X7_which_B122, f_X7_which_B127]
      show _ = some (iI (nt_ql ((r.1 : Int) - q.1) (nt_h r - nt_h q)), _)
      generalize nt_h r - nt_h q = h
      generalize (r.1 : Int) - q.1 = s
      have c1 : 0 ≤ s % 7 ∧ s % 7 < 7 := by omega
      have c2 : 0 ≤ h % 12 ∧ h % 12 < 12 := by omega
      unfold nt_ql
      generalize s % 7 = s at c1 ⊢
      generalize h % 12 = h at c2 ⊢
      simp only [il_eq (show -1000 ≤ s by omega) (by omega), il_eq (show -1000 ≤ h by omega) (by omega), il_le (show -1000 ≤ h by omega) (by omega), show (0 : Int32).toInt = 0 from rfl, show (4 : Int32).toInt = 4 from rfl, show (7 : Int32).toInt = 7 from rfl, show (1 : Int32).toInt = 1 from rfl, show (2 : Int32).toInt = 2 from rfl, show (6 : Int32).toInt = 6 from rfl, show (9 : Int32).toInt = 9 from rfl]
      have cc : s = 0 ∨ s = 4 ∨ (s ≠ 0 ∧ s ≠ 4) := by omega
      have ch : h = 0 ∨ h = 1 ∨ h = 2 ∨ h = 3 ∨ h = 4 ∨ h = 5 ∨ h = 6 ∨ h = 7 ∨ h = 8 ∨ h = 9 ∨ h = 10 ∨ h = 11 := by omega
      rcases cc with rfl | rfl | ⟨q1, q2⟩
      · rcases ch with rfl | rfl | rfl | rfl | rfl | rfl | rfl | rfl | rfl | rfl | rfl | rfl <;> rfl
      · rcases ch with rfl | rfl | rfl | rfl | rfl | rfl | rfl | rfl | rfl | rfl | rfl | rfl <;> rfl
      · simp only [q1, q2, if_false, false_and]
        rcases ch with rfl | rfl | rfl | rfl | rfl | rfl | rfl | rfl | rfl | rfl | rfl | rfl <;> rfl
theorem yr_goes (hY : sp_Y K R y) (hA : yr_at I y n c X) {a m m' : Nat} (ha : a < n) (hm : m < c) (hm' : m' < c) : f_X7_goes fu y (nI a) (nI m) (nI m') (K, I, R, N) = some (bI (nt_go (X m a) (X m' a)), (K, I, R, N)) := by
  have h5 := hA.1
  have h6 := hA.2.1
  simp only [f_X7_goes, f_X7_goes_B24, f_X7_goes_B25, pu_is hY.k, Option.bind_some, yr_f hY (show a < 5 by omega) (show m < 120 by omega), yr_f hY (show a < 5 by omega) (show m' < 120 by omega), pu_vn0, pu_vn1, if_true]
  rcases hA.2.2 a ha m hm with ⟨o, e⟩ | ⟨q, k, o, hq, hk, e, h3, h4⟩
  · rw [e, o, if_pos rfl]
    rfl
  · rcases hA.2.2 a ha m' hm' with ⟨o', e'⟩ | ⟨r, k', o', hr, hk', e', h3', h4'⟩
    · rw [e, o, e', o', if_neg (nI_m1 hk), if_pos rfl]
      rfl
    · rw [e, o, e', o', if_neg (nI_m1 hk), if_neg (nI_m1 hk')]
      rfl
theorem yr_moves (hY : sp_Y K R y) (hA : yr_at I y n c X) {a m m' : Nat} (ha : a < n) (hm : m < c) (hm' : m' < c) : f_X7_moves fu y (nI a) (nI m) (nI m') (K, I, R, N) = some (bI (nt_mv (X m a) (X m' a)), (K, I, R, N)) := by
  have h5 := hA.1
  have h6 := hA.2.1
  simp only [f_X7_moves, f_X7_moves_B64, f_X7_moves_B65, f_X7_moves_B60, pu_is hY.k, Option.bind_some, yr_goes hY hA ha hm hm', bI_ite, pu_vn0, pu_vn1, if_true, yr_f hY (show a < 5 by omega) (show m < 120 by omega), yr_f hY (show a < 5 by omega) (show m' < 120 by omega), pu_gr hY.k hY.f3.1, pu_gr hY.k hY.f4.1]
  rcases hA.2.2 a ha m hm with ⟨o, e⟩ | ⟨q, k, o, hq, hk, e, h3, h4⟩
  · rw [o]
    rfl
  · rcases hA.2.2 a ha m' hm' with ⟨o', e'⟩ | ⟨r, k', o', hr, hk', e', h3', h4'⟩
    · rw [o, o']
      rfl
    · have b3 := hq.1
      have b4 := hr.1
      have b5 := hq.2
      have b6 := hr.2
      simp only [e, e', o, o', nt_go, nt_mv, if_true, yr_s hY hk, yr_s hY hk', yr_x hY hk, yr_x hY hk', h3, h3', h4, h4', Option.bind_some]
      by_cases c1 : q.1 = r.1
      · rw [if_pos (by rw [c1])]
        by_cases c2 : q.2 = r.2
        · rw [if_pos (by rw [c2])]
          simp [c1, c2, bI]
        · rw [if_neg (fun q => c2 ((iI_eq (by omega) (by omega) (by omega) (by omega)).mp q))]
          simp [c1, c2, bI]
      · rw [if_neg (fun q => c1 ((nI_eq (by omega) (by omega)).mp q))]
        simp [c1, bI]
theorem yr_way (hY : sp_Y K R y) (hA : yr_at I y n c X) {a m m' : Nat} (ha : a < n) (hm : m < c) (hm' : m' < c) : f_X7_way fu y (nI a) (nI m) (nI m') (K, I, R, N) = some (iI (nt_way (X m a) (X m' a)), (K, I, R, N)) := by
  have h5 := hA.1
  have h6 := hA.2.1
  simp only [f_X7_way, f_X7_way_B54, pu_is hY.k, Option.bind_some, yr_moves hY hA ha hm hm', bI_ite, yr_f hY (show a < 5 by omega) (show m < 120 by omega), yr_f hY (show a < 5 by omega) (show m' < 120 by omega)]
  rcases hA.2.2 a ha m hm with ⟨o, e⟩ | ⟨q, k, o, hq, hk, e, h3, h4⟩
  · rw [o]
    rfl
  · rcases hA.2.2 a ha m' hm' with ⟨o', e'⟩ | ⟨r, k', o', hr, hk', e', h3', h4'⟩
    · rw [o, o']
      rfl
    · have b1 := nt_hb hq
      have b2 := nt_hb hr
      simp only [pu_is hY.k, yr_f hY (show a < 5 by omega) (show m < 120 by omega), yr_f hY (show a < 5 by omega) (show m' < 120 by omega), e, e', o, o', nt_mv, nt_way, nt_sg, yr_h hY hk hq h3 h4, yr_h hY hk' hr h3' h4', Option.bind_some, iI_sub, ho_id]
      simp only [il_le (show -1000 ≤ nt_h r - nt_h q by omega) (by omega), li_le (show -1000 ≤ nt_h r - nt_h q by omega) (by omega), show (0 : Int32).toInt = 0 from rfl]
      by_cases cm : q.1 ≠ r.1 ∨ q.2 ≠ r.2
      · rw [if_pos (decide_eq_true cm)]
        by_cases c1 : nt_h r - nt_h q ≤ 0
        · rw [if_pos c1, if_neg (show ¬ 0 < nt_h r - nt_h q by omega)]
          by_cases c2 : 0 ≤ nt_h r - nt_h q
          · rw [if_pos c2, if_neg (by omega)]
            rfl
          · rw [if_neg c2, if_pos (by omega)]
            rfl
        · rw [if_neg c1, if_pos (by omega)]
          rfl
      · rw [if_neg (by rw [decide_eq_false cm]; decide)]
        have e1 : q = r := by
          have a1 : q.1 = r.1 := by
            by_cases w : q.1 = r.1
            · exact w
            · exact absurd (Or.inl w) cm
          have a2 : q.2 = r.2 := by
            by_cases w : q.2 = r.2
            · exact w
            · exact absurd (Or.inr w) cm
          exact Prod.ext a1 a2
        subst e1
        rw [if_neg (by omega), if_neg (by omega)]
        rfl
theorem yr_alike (hY : sp_Y K R y) (hA : yr_at I y n c X) {a b m m' : Nat} (ha : a < n) (hb : b < n) (hm : m < c) (hm' : m' < c) : f_X7_goAlike fu y (nI a) (nI b) (nI m) (nI m') (K, I, R, N) = some (bI (decide (nt_way (X m a) (X m' a) * nt_way (X m b) (X m' b) = 1)), (K, I, R, N)) := by
  simp only [f_X7_goAlike, f_X7_goAlike_B26, pu_is hY.k, Option.bind_some, yr_way hY hA ha hm hm', yr_way hY hA hb hm hm', iI_mul, pu_vn0, pu_vn1, if_true]
  rcases nt_wayb (X m a) (X m' a) with w | w | w <;> rcases nt_wayb (X m b) (X m' b) with w' | w' | w' <;> rw [w, w'] <;> rfl
theorem yr_pure (q : Int32) (z : hp_S) : f_X7_isPure fu y q z = some (bI (decide (q = 1 ∨ q = 2)), z) := by
  simp only [f_X7_isPure, f_X7_isPure_B10, f_X7_isPure_B15, pu_vn0, pu_vn1, if_true]
  by_cases h1 : q = 1
  · rw [if_pos h1, decide_eq_true (Or.inl h1)]
    rfl
  · rw [if_neg h1]
    by_cases h2 : q = 2
    · rw [if_pos h2, decide_eq_true (Or.inr h2)]
      rfl
    · rw [if_neg h2, decide_eq_false (fun q => q.elim h1 h2)]
      rfl
end YR
