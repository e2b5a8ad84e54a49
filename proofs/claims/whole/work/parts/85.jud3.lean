/-! the class judges: pairs, its questions -/
section XP
variable {K : Nat → Nat × Nat} {I I0 : Nat → Nat → Int32} {R : Nat → Nat → Option Nat} {N fu j n jm m : Nat} {rb : Int32} {ky : Int} {c1 c2 : Nat} {X Y : Nat → Option nt_T} {S0 : Nat → Nat → Prop} {Cv Cv' : Nat → Nat → Nat → Prop} {z : hp_S}
theorem xq_tab : ∀ M, M < 7 → ho_tl h_t4 (nI M) = some (iI (nt_lo.getD M 0)) ∧ ho_tl h_t5 (nI M) = some (iI (nt_hi.getD M 0)) ∧ 0 ≤ nt_lo.getD M 0 ∧ nt_lo.getD M 0 ≤ 11 ∧ 0 ≤ nt_hi.getD M 0 ∧ nt_hi.getD M 0 ≤ 11 := by decide +kernel
theorem xq_leap {s : Nat} {h : Int} (hs : s ≤ 55) (h1 : -200 ≤ h) (h2 : h ≤ 200) (z : hp_S) : f_X3_isLeap fu (nI s) (iI h) z = some (bI (nt_l0 s h), z) := by
  have hM : s % 7 < 7 := Nat.mod_lt _ (by decide)
  have hD : s / 7 ≤ 7 := by omega
  obtain ⟨t1, t2, t3, t4, t5, t6⟩ := xq_tab (s % 7) hM
  simp only [f_X3_isLeap, f_X3_isLeap_B24, f_X3_isLeap_B64, f_X3_isLeap_B59, ht_dv hs, ht_rm hs, t1, t2, Option.bind_some, pu_vn0, pu_vn1, if_true, ho_id]
  unfold nt_l0
  generalize s / 7 = D at *
  generalize nt_lo.getD (s % 7) 0 = lo at *
  generalize nt_hi.getD (s % 7) 0 = hi at *
  have hO : iI h - 12 * nI D = iI (h - 12 * (D : Int)) := by
    rw [show (12 : Int32) = iI 12 from rfl, iI_nat, iI_mul, iI_sub]
  rw [hO]
  simp only [li_lt (show -1000 ≤ h by omega) (by omega), il_eq (show -1000 ≤ h by omega) (by omega), show (12 : Int32).toInt = 12 from rfl, show (6 : Int32).toInt = 6 from rfl, show (10 : Int32).toInt = 10 from rfl, show (11 : Int32).toInt = 11 from rfl]
  simp only [show (iI (h - 12 * (D : Int)) < iI lo) ↔ h - 12 * (D : Int) < lo from iI_lt (by omega) (by omega) (by omega) (by omega), show (iI (h - 12 * (D : Int)) ≤ iI hi) ↔ h - 12 * (D : Int) ≤ hi from iI_le (by omega) (by omega) (by omega) (by omega)]
  by_cases c1 : 12 < h
  · rw [if_pos c1, decide_eq_true (Or.inl c1)]
    rfl
  · rw [if_neg c1]
    by_cases c2 : h = 6
    · rw [if_pos c2, decide_eq_true (Or.inr (Or.inl c2))]
      rfl
    · rw [if_neg c2]
      by_cases c3 : h = 10
      · rw [if_pos c3, decide_eq_true (Or.inr (Or.inr (Or.inl c3)))]
        rfl
      · rw [if_neg c3]
        by_cases c4 : h = 11
        · rw [if_pos c4, decide_eq_true (Or.inr (Or.inr (Or.inr (Or.inl c4))))]
          rfl
        · rw [if_neg c4]
          by_cases c5 : h - 12 * (D : Int) < lo
          · rw [if_pos c5, decide_eq_true (Or.inr (Or.inr (Or.inr (Or.inr (Or.inl c5)))))]
            rfl
          · rw [if_neg c5]
            refine lp_fin ?_
            omega
theorem xq_cmp {a b : Int} (h1 : -200 ≤ a) (h2 : a ≤ 200) (h3 : -200 ≤ b) (h4 : b ≤ 200) (z : hp_S) : f_J6_compare fu (iI a) (iI b) z = some (iI (nt_sg (a - b)), z) := by
  simp only [f_J6_compare, f_J6_compare_B19, nt_sg, show (iI b ≤ iI a) ↔ b ≤ a from iI_le (by omega) (by omega) (by omega) (by omega), show (iI a < iI b) ↔ a < b from iI_lt (by omega) (by omega) (by omega) (by omega), show (iI a = iI b) ↔ a = b from iI_eq (by omega) (by omega) (by omega) (by omega)]
  rcases Int.lt_trichotomy a b with q | q | q
  · rw [if_neg (by omega : ¬ 0 < a - b), if_pos (by omega : a - b < 0)]
    first | rw [if_pos q] | rw [if_neg (by omega)]
    rfl
  · rw [if_neg (by omega : ¬ 0 < a - b), if_neg (by omega : ¬ a - b < 0)]
    first | rw [if_neg (by omega), if_pos q] | rw [if_pos (by omega), if_pos q]
    rfl
  · rw [if_pos (by omega : 0 < a - b)]
    first | rw [if_neg (by omega), if_neg (by omega)] | rw [if_pos (by omega), if_neg (by omega)]
    rfl
theorem xq_way (h : xj K I R j n jm m rb ky c1 c2 X Y) {a : Nat} (ha : a < n) {q r : nt_T} (hq : X a = some q) (hr : Y a = some r) : f_X3_way fu j (nI a) (K, I, R, N) = some (iI (nt_way (X a) (Y a)), (K, I, R, N)) := by
  obtain ⟨⟨h1, h2, h3⟩, ⟨x1, x2, x3, -⟩, ⟨y1, y2, y3, -⟩, -, -, -, ⟨-, h5⟩, ox, oy, -⟩ := h
  obtain ⟨q1, q2, q3, q4⟩ := (x3 a ha).2 q hq
  obtain ⟨r1, r2, r3, r4⟩ := (y3 a ha).2 r hr
  have b1 := nt_hb (ox a ha q hq)
  have b2 := nt_hb (oy a ha r hr)
  simp only [f_X3_way, pu_gr h1 x1, pu_gr h1 y1, pu_gr x2.1 x2.2.2.2.2.1, pu_gr y2.1 y2.2.2.2.2.1, cx_h x2 (show a < 5 by omega), cx_h y2 (show a < 5 by omega), Option.bind_some, q4, r4, xq_cmp (show -200 ≤ nt_h r by omega) (show nt_h r ≤ 200 by omega) (show -200 ≤ nt_h q by omega) (show nt_h q ≤ 200 by omega), hq, hr]
  rfl
theorem xq_cross (h : xj K I R j n jm m rb ky c1 c2 X Y) {a b : Nat} (ha : a < n) (hb : b < n) : f_X3_isCrossRelation fu j (nI a) (nI b) (K, I, R, N) = some (bI (nt_cr (X a) (Y b) (Y a)), (K, I, R, N)) := by
  obtain ⟨⟨h1, h2, h3⟩, ⟨x1, x2, x3, -⟩, ⟨y1, y2, y3, -⟩, -, -, -, ⟨-, h5⟩, ox, oy, -⟩ := h
  simp only [f_X3_isCrossRelation, f_X3_isCrossRelation_B96, f_X3_isCrossRelation_B97, pu_gr h1 x1, pu_gr h1 y1, pu_gr x2.1 x2.2.1, pu_gr y2.1 y2.2.1, pu_is x2.1, pu_is y2.1, pu_gr x2.1 x2.2.2.2.1, pu_gr y2.1 y2.2.2.2.1, cx_s x2 (show a < 5 by omega), cx_s y2 (show b < 5 by omega), cx_x x2 (show a < 5 by omega), cx_x y2 (show b < 5 by omega), Option.bind_some, cx_so x3 ha, cx_so y3 hb, bI_ite, pu_vn0, pu_vn1, if_true]
  cases hq : X a with
  | none => rfl
  | some q =>
    rw [if_pos (by rfl)]
    cases hr : Y b with
    | none => rfl
    | some r =>
      rw [if_pos (by rfl)]
      obtain ⟨q1, q2, q3, q4⟩ := (x3 a ha).2 q hq
      obtain ⟨r1, r2, r3, r4⟩ := (y3 b hb).2 r hr
      have b1 := (ox a ha q hq).2
      have b2 := (oy b hb r hr).2
      have l1 : q.1 % 7 < 7 := Nat.mod_lt _ (by decide)
      have l2 : r.1 % 7 < 7 := Nat.mod_lt _ (by decide)
      rw [cx_l x2 x3 h5 ha hq (ox a ha q hq), Option.bind_some]
      simp only [pu_gr h1 y1, pu_is y2.1, Option.bind_some, cx_l y2 y3 h5 hb hr (oy b hb r hr)]
      by_cases d1 : q.1 % 7 = r.1 % 7
      · rw [if_pos (by rw [d1])]
        simp only [pu_gr h1 x1, pu_gr h1 y1, pu_gr x2.1 x2.2.2.2.1, pu_gr y2.1 y2.2.2.2.1, cx_x x2 (show a < 5 by omega), cx_x y2 (show b < 5 by omega), Option.bind_some, q3, r3, pu_is y2.1, cx_l y2 y3 h5 hb hr (oy b hb r hr)]
        by_cases d2 : q.2 = r.2
        · rw [if_pos (by rw [d2])]
          simp [nt_cr, d2, bI]
        · rw [if_neg (fun w => d2 ((iI_eq (by omega) (by omega) (by omega) (by omega)).mp w))]
          rw [cx_of y2 y3 h5 oy ha l2 (by omega) (by omega), Option.bind_some]
          simp only [bI_ite]
          cases ht : Y a with
          | none => simp [nt_of, nt_cr, d1, d2, bI]
          | some t =>
            by_cases d3 : t.1 % 7 = r.1 % 7 ∧ t.2 = r.2
            · simp [nt_of, nt_cr, d3, bI]
            · simp only [nt_of, nt_cr, decide_eq_false d3, decide_eq_true (show q.1 % 7 = r.1 % 7 ∧ q.2 ≠ r.2 from ⟨d1, d2⟩), decide_eq_true d3]
              rfl
      · rw [if_neg (fun w => d1 ((nI_eq (by omega) (by omega)).mp w))]
        simp [nt_cr, d1, bI]
end XP
