/-! the class judges: pairs -/
section XT
variable {K : Nat → Nat × Nat} {I I0 : Nat → Nat → Int32} {R : Nat → Nat → Option Nat} {N fu j n jm m : Nat} {rb : Int32} {ky : Int} {c1 c2 : Nat} {X Y : Nat → Option nt_T} {S0 : Nat → Nat → Prop} {Cv Cv' : Nat → Nat → Nat → Prop} {z : hp_S} {a b : Nat} {p1 p2 p3 p4 : nt_T}
theorem xt_248 (h : xj K I0 R j n jm m rb ky c1 c2 X Y) (hb : b < n) (hab : a < b) (o1 : X a = some p1) (o2 : Y a = some p2) (o3 : X b = some p3) (o4 : Y b = some p4) (hz : xz K R N I0 j n jm S0 m rb (fun k a b => nt_pr n ky k a b X Y) Cv z) : pu_ok (f_X3_lookAtTwo_B248 fu j (nI a) (nI b) z) (xz K R N I0 j n jm S0 m rb (fun k a b => nt_pr n ky k a b X Y) (fun k' a' b' => (Cv k' a' b') ∨ (k' = 4 ∧ a' = a ∧ b' = b))) := by
  have ha : a < n := by omega
  obtain ⟨I1, rfl, z1, z2⟩ := id hz
  have hJ := h.keep z1
  obtain ⟨⟨h1, h2, h3⟩, ⟨x1, x2, x3, -⟩, ⟨y1, y2, y3, -⟩, ⟨-, e2, -⟩, -, -, ⟨hn2, h5⟩, ox, oy, -⟩ := id hJ
  have b1 := nt_hb (ox a ha p1 o1)
  have b2 := nt_hb (oy a ha p2 o2)
  have b3 := nt_hb (ox b hb p3 o3)
  have b4 := nt_hb (oy b hb p4 o4)
  have g1 := ((x3 a ha).2 p1 o1).2.2.2
  have g2 := ((y3 a ha).2 p2 o2).2.2.2
  have g3 := ((x3 b hb).2 p3 o3).2.2.2
  have g4 := ((y3 b hb).2 p4 o4).2.2.2
  simp only [f_X3_lookAtTwo_B248, f_X3_lookAtTwo_B301, f_X3_lookAtTwo_B309, nI_1, pu_gr h1 x1, pu_gr h1 y1, pu_gr x2.1 x2.2.2.2.2.1, pu_gr y2.1 y2.2.2.2.2.1, cx_h x2 (show a < 5 by omega), cx_h y2 (show a < 5 by omega), cx_h x2 (show b < 5 by omega), cx_h y2 (show b < 5 by omega), Option.bind_some, g1, g2, g3, g4]
  by_cases hba : b = a + 1
  · rw [if_pos (by rw [hba])]
    have q4 : nt_pr n ky 4 a b X Y = (decide (nt_h p3 < nt_h p2) || decide (nt_h p4 < nt_h p1)) := by simp only [nt_pr, decide_eq_true hba, o1, o2, o3, o4, nt_go, nt_lt, Bool.true_and]
    have hgo : ∀ v : Bool, v = nt_pr n ky 4 a b X Y → pu_ok (f_X3_lookAtTwo_B306 fu j (nI a) (nI b) (bI v) (nI b) (nI a) 4 j (K, I1, R, N)) (xz K R N I0 j n jm S0 m rb (fun k a b => nt_pr n ky k a b X Y) (fun k' a' b' => (Cv k' a' b') ∨ (k' = 4 ∧ a' = a ∧ b' = b))) := by
      intro v hv
      simp only [f_X3_lookAtTwo_B306, f_X3_lookAtTwo_B309, pu_is h1, Option.bind_some]
      exact pu_bind (pu_mono (xb (k := 4) h hz (by decide) ha hb hv) (fun z' hz' => pu_some hz'))
    simp only [show (iI (nt_h p3) < iI (nt_h p2)) ↔ (nt_h p3 < nt_h p2) from iI_lt (by omega) (by omega) (by omega) (by omega), show (iI (nt_h p1) ≤ iI (nt_h p4)) ↔ (nt_h p1 ≤ nt_h p4) from iI_le (by omega) (by omega) (by omega) (by omega)]
    by_cases d1 : nt_h p3 < nt_h p2
    · rw [if_pos d1]
      exact hgo true (by rw [q4, decide_eq_true d1]; rfl)
    · rw [if_neg d1]
      by_cases d2 : nt_h p1 ≤ nt_h p4
      · rw [if_pos d2]
        exact hgo false (by rw [q4, decide_eq_false d1, decide_eq_false (by omega)]; rfl)
      · rw [if_neg d2]
        exact hgo true (by rw [q4, decide_eq_false d1, decide_eq_true (by omega)]; rfl)
  · rw [if_neg (fun w => hba ((nI_eq (by omega) (by omega)).mp w))]
    refine pu_some (xz_free hz (fun k' a' b' hk' _ _ hQ => ⟨Or.inl, fun w => w.elim id (fun w => ?_)⟩))
    obtain ⟨rfl, rfl, rfl⟩ := w
    have hq := nt_pr_ab hk' hQ
    simp [nt_ab] at hq
    omega
theorem xt_165 (h : xj K I0 R j n jm m rb ky c1 c2 X Y) (hb : b < n) (hab : a < b) (o1 : X a = some p1) (o2 : Y a = some p2) (o3 : X b = some p3) (o4 : Y b = some p4) (hz : xz K R N I0 j n jm S0 m rb (fun k a b => nt_pr n ky k a b X Y) Cv z) {v : Bool} (hv : v = nt_pr n ky 12 a b X Y) : pu_ok (f_X3_lookAtTwo_B165 fu j (nI a) (nI b) (bI (decide ((nt_way (X a) (Y a) * nt_way (X b) (Y b)) = 1))) (iI (nt_q (X a) (X b))) (iI (nt_q (Y a) (Y b))) (bI (decide (nt_q (Y a) (Y b) = 1 ∨ nt_q (Y a) (Y b) = 2))) (bI v) (nI b) (nI a) 12 j z) (xz K R N I0 j n jm S0 m rb (fun k a b => nt_pr n ky k a b X Y) (fun k' a' b' => (((Cv k' a' b') ∨ (k' = 12 ∧ a' = a ∧ b' = b)) ∨ (k' = 2 ∧ a' = a ∧ b' = b)) ∨ (k' = 4 ∧ a' = a ∧ b' = b))) := by
  have ha : a < n := by omega
  obtain ⟨I1, rfl, z1, z2⟩ := id hz
  have hJ := h.keep z1
  obtain ⟨⟨h1, h2, h3⟩, ⟨x1, x2, x3, -⟩, ⟨y1, y2, y3, -⟩, ⟨-, e2, -⟩, -, -, ⟨hn2, h5⟩, ox, oy, -⟩ := id hJ
  simp only [f_X3_lookAtTwo_B165, pu_is h1, Option.bind_some]
  refine pu_bind (pu_mono (xb (k := 12) h hz (by decide) ha hb hv) (fun z' hz' => ?_))
  have hfree : ¬ (a = 0 ∧ b = n - 1) → pu_ok (f_X3_lookAtTwo_B248 fu j (nI a) (nI b) z') (xz K R N I0 j n jm S0 m rb (fun k a b => nt_pr n ky k a b X Y) (fun k' a' b' => (((Cv k' a' b') ∨ (k' = 12 ∧ a' = a ∧ b' = b)) ∨ (k' = 2 ∧ a' = a ∧ b' = b)) ∨ (k' = 4 ∧ a' = a ∧ b' = b))) := by
    intro hq
    refine pu_mono (xt_248 h hb hab o1 o2 o3 o4 hz') (fun z2 hz2 => xz_free hz2 (fun k' a' b' hk' _ _ hQ => ?_))
    have : ¬ (k' = 2 ∧ a' = a ∧ b' = b) := by
      rintro ⟨rfl, rfl, rfl⟩
      have hw := nt_pr_ab hk' hQ
      simp [nt_ab] at hw
      exact hq hw
    constructor
    · rintro ((w | w) | w)
      · exact Or.inl (Or.inl (Or.inl w))
      · exact Or.inl (Or.inl (Or.inr w))
      · exact Or.inr w
    · rintro (((w | w) | w) | w)
      · exact Or.inl (Or.inl w)
      · exact Or.inl (Or.inr w)
      · exact absurd w this
      · exact Or.inr w
  obtain ⟨I2, rfl, w1, w2⟩ := id hz'
  have hJ2 := h.keep w1
  obtain ⟨-, ⟨-, -, x3', -⟩, ⟨-, -, y3', -⟩, ⟨-, e2', -⟩, -⟩ := id hJ2
  have g3 := ((x3' b hb).2 p3 o3).2.2.2
  have g4 := ((y3' b hb).2 p4 o4).2.2.2
  have b3 := nt_hb (ox b hb p3 o3)
  have b4 := nt_hb (oy b hb p4 o4)
  simp only [pu_gi h1, e2', nn_sp hn2, pu_gr h1 x1, pu_gr h1 y1, pu_gr x2.1 x2.2.2.2.2.1, pu_gr y2.1 y2.2.2.2.2.1, cx_h x2 (show b < 5 by omega), cx_h y2 (show b < 5 by omega), Option.bind_some, g3, g4, nn_eq0 (show a < 100 by omega), nn_eq (show b < 100 by omega) (show n - 1 < 100 by omega), iI_sub, ho_id]
  by_cases ha0 : a = 0
  · rw [if_pos ha0]
    by_cases hbn : b = n - 1
    · rw [if_pos hbn]
      have q2 : nt_pr n ky 2 a b X Y = (decide ((nt_way (X a) (Y a) * nt_way (X b) (Y b)) = 1 ∧ (nt_q (Y a) (Y b) = 1 ∨ nt_q (Y a) (Y b) = 2) ∧ nt_q (X a) (X b) ≠ nt_q (Y a) (Y b)) && decide (2 < nt_h p4 - nt_h p3 ∨ nt_h p4 - nt_h p3 < -2)) := by
        have : decide (a = 0 ∧ b = n - 1) = true := decide_eq_true ⟨ha0, hbn⟩
        simp only [nt_pr, this, Bool.true_and, nt_jp, o3, o4]
      have h245 : ∀ v : Bool, v = nt_pr n ky 2 a b X Y → pu_ok (f_X3_lookAtTwo_B245 fu j (nI a) (nI b) (bI v) (nI b) (nI a) 2 j (K, I2, R, N)) (xz K R N I0 j n jm S0 m rb (fun k a b => nt_pr n ky k a b X Y) (fun k' a' b' => (((Cv k' a' b') ∨ (k' = 12 ∧ a' = a ∧ b' = b)) ∨ (k' = 2 ∧ a' = a ∧ b' = b)) ∨ (k' = 4 ∧ a' = a ∧ b' = b))) := by
        intro v hv
        simp only [f_X3_lookAtTwo_B245, pu_is h1, Option.bind_some]
        exact pu_bind (pu_mono (xb (k := 2) h hz' (by decide) ha hb hv) (fun z3 hz3 => xt_248 h hb hab o1 o2 o3 o4 hz3))
      have h213 : ∀ v : Bool, v = decide (2 < nt_h p4 - nt_h p3 ∨ nt_h p4 - nt_h p3 < -2) → pu_ok (f_X3_lookAtTwo_B213 fu j (nI a) (nI b) (bI (decide ((nt_way (X a) (Y a) * nt_way (X b) (Y b)) = 1))) (iI (nt_q (X a) (X b))) (iI (nt_q (Y a) (Y b))) (bI (decide (nt_q (Y a) (Y b) = 1 ∨ nt_q (Y a) (Y b) = 2))) (bI v) (K, I2, R, N)) (xz K R N I0 j n jm S0 m rb (fun k a b => nt_pr n ky k a b X Y) (fun k' a' b' => (((Cv k' a' b') ∨ (k' = 12 ∧ a' = a ∧ b' = b)) ∨ (k' = 2 ∧ a' = a ∧ b' = b)) ∨ (k' = 4 ∧ a' = a ∧ b' = b))) := by
        intro v hv
        have i1 := nt_qb (X a) (X b)
        have i2 := nt_qb (Y a) (Y b)
        rw [← hv] at q2
        simp only [f_X3_lookAtTwo_B213, f_X3_lookAtTwo_B244, bI_ite, decide_eq_true_eq, iI_eqs (show -1000 ≤ nt_q (X a) (X b) by omega) (by omega) (show -1000 ≤ nt_q (Y a) (Y b) by omega) (by omega)]
        by_cases d1 : (nt_way (X a) (Y a) * nt_way (X b) (Y b)) = 1
        · rw [if_pos d1]
          by_cases d2 : nt_q (Y a) (Y b) = 1 ∨ nt_q (Y a) (Y b) = 2
          · rw [if_pos d2]
            by_cases d3 : nt_q (X a) (X b) = nt_q (Y a) (Y b)
            · rw [if_pos d3]
              exact h245 false (by rw [q2, decide_eq_false (fun w => w.2.2 d3)]; rfl)
            · rw [if_neg d3]
              rw [decide_eq_true (show (nt_way (X a) (Y a) * nt_way (X b) (Y b)) = 1 ∧ (nt_q (Y a) (Y b) = 1 ∨ nt_q (Y a) (Y b) = 2) ∧ nt_q (X a) (X b) ≠ nt_q (Y a) (Y b) from ⟨d1, d2, d3⟩), Bool.true_and] at q2
              cases v with
              | false =>
                rw [if_neg (by decide)]
                exact h245 false q2.symm
              | true =>
                rw [if_pos rfl]
                exact h245 true q2.symm
          · rw [if_neg d2]
            exact h245 false (by rw [q2, decide_eq_false (fun w => d2 w.2.1)]; rfl)
        · rw [if_neg d1]
          exact h245 false (by rw [q2, decide_eq_false (fun w => d1 w.1)]; rfl)
      have habs : (if (0 : Int32) ≤ iI (nt_h p4 - nt_h p3) then iI (nt_h p4 - nt_h p3) else 0 - iI (nt_h p4 - nt_h p3)) ≤ 2 ↔ ¬ (2 < nt_h p4 - nt_h p3 ∨ nt_h p4 - nt_h p3 < -2) := by
        have e0 : (0 : Int32) ≤ iI (nt_h p4 - nt_h p3) ↔ 0 ≤ nt_h p4 - nt_h p3 := li_le (by omega) (by omega)
        by_cases hp : 0 ≤ nt_h p4 - nt_h p3
        · rw [if_pos (e0.mpr hp), il_le (by omega) (by omega), show (2 : Int32).toInt = 2 from rfl]
          omega
        · rw [if_neg (fun w => hp (e0.mp w)), show (0 : Int32) = iI 0 from rfl, iI_sub, il_le (by omega) (by omega), show (2 : Int32).toInt = 2 from rfl]
          omega
      by_cases hd : 2 < nt_h p4 - nt_h p3 ∨ nt_h p4 - nt_h p3 < -2
      · rw [if_neg (fun w => (habs.mp w) hd)]
        exact h213 true (decide_eq_true hd).symm
      · rw [if_pos (habs.mpr hd)]
        exact h213 false (decide_eq_false hd).symm
    · rw [if_neg hbn]
      exact hfree (fun w => hbn w.2)
  · rw [if_neg ha0]
    exact hfree (fun w => ha0 w.1)
theorem xt_136 (h : xj K I0 R j n jm m rb ky c1 c2 X Y) (hb : b < n) (hab : a < b) (o1 : X a = some p1) (o2 : Y a = some p2) (o3 : X b = some p3) (o4 : Y b = some p4) (hz : xz K R N I0 j n jm S0 m rb (fun k a b => nt_pr n ky k a b X Y) Cv z) {v : Bool} (hv : v = nt_pr n ky 1 a b X Y) : pu_ok (f_X3_lookAtTwo_B136 fu j (nI a) (nI b) (bI (decide ((nt_way (X a) (Y a) * nt_way (X b) (Y b)) = 1))) (iI (nt_q (X a) (X b))) (iI (nt_q (Y a) (Y b))) (bI (decide (nt_q (Y a) (Y b) = 1 ∨ nt_q (Y a) (Y b) = 2))) (bI v) (nI b) (nI a) 1 j z) (xz K R N I0 j n jm S0 m rb (fun k a b => nt_pr n ky k a b X Y) (fun k' a' b' => ((((Cv k' a' b') ∨ (k' = 1 ∧ a' = a ∧ b' = b)) ∨ (k' = 12 ∧ a' = a ∧ b' = b)) ∨ (k' = 2 ∧ a' = a ∧ b' = b)) ∨ (k' = 4 ∧ a' = a ∧ b' = b))) := by
  have ha : a < n := by omega
  obtain ⟨I1, rfl, z1, z2⟩ := id hz
  have hJ := h.keep z1
  obtain ⟨⟨h1, h2, h3⟩, ⟨x1, x2, x3, -⟩, ⟨y1, y2, y3, -⟩, ⟨-, e2, -⟩, -, -, ⟨hn2, h5⟩, ox, oy, -⟩ := id hJ
  simp only [f_X3_lookAtTwo_B136, f_X3_lookAtTwo_B164, pu_is h1, Option.bind_some]
  refine pu_bind (pu_mono (xb (k := 1) h hz (by decide) ha hb hv) (fun z' hz' => ?_))
  have i1 := nt_qb (X a) (X b)
  have i2 := nt_qb (Y a) (Y b)
  have q12 : nt_pr n ky 12 a b X Y = decide ((nt_way (X a) (Y a) * nt_way (X b) (Y b)) = 1 ∧ nt_q (X a) (X b) ≠ 3 ∧ nt_q (Y a) (Y b) = 3) := by simp only [nt_pr, decide_eq_true hab, Bool.true_and]
  simp only [bI_ite, decide_eq_true_eq, il_eq (show -1000 ≤ nt_q (X a) (X b) by omega) (show nt_q (X a) (X b) ≤ 1000 by omega), il_eq (show -1000 ≤ nt_q (Y a) (Y b) by omega) (show nt_q (Y a) (Y b) ≤ 1000 by omega), show (3 : Int32).toInt = 3 from rfl]
  by_cases d1 : (nt_way (X a) (Y a) * nt_way (X b) (Y b)) = 1
  · rw [if_pos d1]
    by_cases d2 : nt_q (X a) (X b) = 3
    · rw [if_pos d2]
      exact xt_165 (v := false) h hb hab o1 o2 o3 o4 hz' (by rw [q12, decide_eq_false (fun w => w.2.1 d2)])
    · rw [if_neg d2]
      by_cases d3 : nt_q (Y a) (Y b) = 3
      · rw [if_pos d3]
        exact xt_165 (v := true) h hb hab o1 o2 o3 o4 hz' (by rw [q12, decide_eq_true ⟨d1, d2, d3⟩])
      · rw [if_neg d3]
        exact xt_165 (v := false) h hb hab o1 o2 o3 o4 hz' (by rw [q12, decide_eq_false (fun w => d3 w.2.2)])
  · rw [if_neg d1]
    exact xt_165 (v := false) h hb hab o1 o2 o3 o4 hz' (by rw [q12, decide_eq_false (fun w => d1 w.1)])
theorem xt_107 (h : xj K I0 R j n jm m rb ky c1 c2 X Y) (hb : b < n) (hab : a < b) (o1 : X a = some p1) (o2 : Y a = some p2) (o3 : X b = some p3) (o4 : Y b = some p4) (hz : xz K R N I0 j n jm S0 m rb (fun k a b => nt_pr n ky k a b X Y) Cv z) {v : Bool} (hv : v = nt_pr n ky 0 a b X Y) : pu_ok (f_X3_lookAtTwo_B107 fu j (nI a) (nI b) (bI (decide ((nt_way (X a) (Y a) * nt_way (X b) (Y b)) = 1))) (bI (decide ((nt_way (X a) (Y a) * nt_way (X b) (Y b)) = -1))) (iI (nt_q (X a) (X b))) (iI (nt_q (Y a) (Y b))) (bI (decide (nt_q (Y a) (Y b) = 1 ∨ nt_q (Y a) (Y b) = 2))) (bI v) (nI b) (nI a) 0 j z) (xz K R N I0 j n jm S0 m rb (fun k a b => nt_pr n ky k a b X Y) (fun k' a' b' => (((((Cv k' a' b') ∨ (k' = 0 ∧ a' = a ∧ b' = b)) ∨ (k' = 1 ∧ a' = a ∧ b' = b)) ∨ (k' = 12 ∧ a' = a ∧ b' = b)) ∨ (k' = 2 ∧ a' = a ∧ b' = b)) ∨ (k' = 4 ∧ a' = a ∧ b' = b))) := by
  have ha : a < n := by omega
  obtain ⟨I1, rfl, z1, z2⟩ := id hz
  have hJ := h.keep z1
  obtain ⟨⟨h1, h2, h3⟩, ⟨x1, x2, x3, -⟩, ⟨y1, y2, y3, -⟩, ⟨-, e2, -⟩, -, -, ⟨hn2, h5⟩, ox, oy, -⟩ := id hJ
  simp only [f_X3_lookAtTwo_B107, f_X3_lookAtTwo_B135, pu_is h1, Option.bind_some]
  refine pu_bind (pu_mono (xb (k := 0) h hz (by decide) ha hb hv) (fun z' hz' => ?_))
  have i1 := nt_qb (X a) (X b)
  have i2 := nt_qb (Y a) (Y b)
  have q1 : nt_pr n ky 1 a b X Y = decide ((nt_way (X a) (Y a) * nt_way (X b) (Y b)) = -1 ∧ (nt_q (X a) (X b) = 1 ∨ nt_q (X a) (X b) = 2) ∧ nt_q (X a) (X b) = nt_q (Y a) (Y b)) := by simp only [nt_pr, decide_eq_true hab, Bool.true_and]
  simp only [bI_ite, decide_eq_true_eq, iI_eqs (show -1000 ≤ nt_q (X a) (X b) by omega) (show nt_q (X a) (X b) ≤ 1000 by omega) (show -1000 ≤ nt_q (Y a) (Y b) by omega) (show nt_q (Y a) (Y b) ≤ 1000 by omega)]
  by_cases d1 : (nt_way (X a) (Y a) * nt_way (X b) (Y b)) = -1
  · rw [if_pos d1]
    by_cases d2 : nt_q (Y a) (Y b) = 1 ∨ nt_q (Y a) (Y b) = 2
    · rw [if_pos d2]
      by_cases d3 : nt_q (X a) (X b) = nt_q (Y a) (Y b)
      · rw [if_pos d3]
        exact xt_136 (v := true) h hb hab o1 o2 o3 o4 hz' (by rw [q1, decide_eq_true ⟨d1, by rw [d3]; exact d2, d3⟩])
      · rw [if_neg d3]
        exact xt_136 (v := false) h hb hab o1 o2 o3 o4 hz' (by rw [q1, decide_eq_false (fun w => d3 w.2.2)])
    · rw [if_neg d2]
      exact xt_136 (v := false) h hb hab o1 o2 o3 o4 hz' (by rw [q1, decide_eq_false (fun w => d2 (by rw [← w.2.2]; exact w.2.1))])
  · rw [if_neg d1]
    exact xt_136 (v := false) h hb hab o1 o2 o3 o4 hz' (by rw [q1, decide_eq_false (fun w => d1 w.1)])
theorem xt (h : xj K I0 R j n jm m rb ky c1 c2 X Y) (hb : b < n) (hab : a < b) (o1 : X a = some p1) (o2 : Y a = some p2) (o3 : X b = some p3) (o4 : Y b = some p4) (hz : xz K R N I0 j n jm S0 m rb (fun k a b => nt_pr n ky k a b X Y) Cv z) : pu_ok (f_X3_lookAtTwo fu j (nI a) (nI b) z) (xz K R N I0 j n jm S0 m rb (fun k a b => nt_pr n ky k a b X Y) (fun k' a' b' => (((((Cv k' a' b') ∨ (k' = 0 ∧ a' = a ∧ b' = b)) ∨ (k' = 1 ∧ a' = a ∧ b' = b)) ∨ (k' = 12 ∧ a' = a ∧ b' = b)) ∨ (k' = 2 ∧ a' = a ∧ b' = b)) ∨ (k' = 4 ∧ a' = a ∧ b' = b))) := by
  have ha : a < n := by omega
  obtain ⟨I1, rfl, z1, z2⟩ := id hz
  have hJ := h.keep z1
  obtain ⟨⟨h1, h2, h3⟩, ⟨x1, x2, x3, -⟩, ⟨y1, y2, y3, -⟩, ⟨-, e2, -⟩, -, -, ⟨hn2, h5⟩, ox, oy, -⟩ := id hJ
  have i1 := nt_qb (X a) (X b)
  have i2 := nt_qb (Y a) (Y b)
  have wb : (nt_way (X a) (Y a) * nt_way (X b) (Y b)) = 0 ∨ (nt_way (X a) (Y a) * nt_way (X b) (Y b)) = 1 ∨ (nt_way (X a) (Y a) * nt_way (X b) (Y b)) = -1 := by
    rcases nt_wayb (X a) (Y a) with w | w | w <;> rcases nt_wayb (X b) (Y b) with w' | w' | w' <;> rw [w, w'] <;> decide
  have q0 : nt_pr n ky 0 a b X Y = decide ((nt_way (X a) (Y a) * nt_way (X b) (Y b)) = 1 ∧ (nt_q (X a) (X b) = 1 ∨ nt_q (X a) (X b) = 2) ∧ nt_q (X a) (X b) = nt_q (Y a) (Y b)) := by simp only [nt_pr, decide_eq_true hab, Bool.true_and]
  have hwm : iI (nt_way (X a) (Y a)) * iI (nt_way (X b) (Y b)) = iI (nt_way (X a) (Y a) * nt_way (X b) (Y b)) := iI_mul _ _
  have h80 : ∀ u : Bool, u = decide (nt_q (Y a) (Y b) = 1 ∨ nt_q (Y a) (Y b) = 2) → pu_ok (f_X3_lookAtTwo_B80 fu j (nI a) (nI b) (bI (decide ((nt_way (X a) (Y a) * nt_way (X b) (Y b)) = 1))) (bI (decide ((nt_way (X a) (Y a) * nt_way (X b) (Y b)) = -1))) (iI (nt_q (X a) (X b))) (iI (nt_q (Y a) (Y b))) (bI u) (K, I1, R, N)) (xz K R N I0 j n jm S0 m rb (fun k a b => nt_pr n ky k a b X Y) (fun k' a' b' => (((((Cv k' a' b') ∨ (k' = 0 ∧ a' = a ∧ b' = b)) ∨ (k' = 1 ∧ a' = a ∧ b' = b)) ∨ (k' = 12 ∧ a' = a ∧ b' = b)) ∨ (k' = 2 ∧ a' = a ∧ b' = b)) ∨ (k' = 4 ∧ a' = a ∧ b' = b))) := by
    intro u hu
    subst hu
    simp only [f_X3_lookAtTwo_B80, f_X3_lookAtTwo_B106, bI_ite, decide_eq_true_eq, iI_eqs (show -1000 ≤ nt_q (X a) (X b) by omega) (show nt_q (X a) (X b) ≤ 1000 by omega) (show -1000 ≤ nt_q (Y a) (Y b) by omega) (show nt_q (Y a) (Y b) ≤ 1000 by omega)]
    by_cases d1 : (nt_way (X a) (Y a) * nt_way (X b) (Y b)) = 1
    · rw [if_pos d1]
      by_cases d2 : nt_q (Y a) (Y b) = 1 ∨ nt_q (Y a) (Y b) = 2
      · rw [if_pos d2]
        by_cases d3 : nt_q (X a) (X b) = nt_q (Y a) (Y b)
        · rw [if_pos d3]
          exact xt_107 (v := true) h hb hab o1 o2 o3 o4 hz (by rw [q0, decide_eq_true ⟨d1, by rw [d3]; exact d2, d3⟩])
        · rw [if_neg d3]
          exact xt_107 (v := false) h hb hab o1 o2 o3 o4 hz (by rw [q0, decide_eq_false (fun w => d3 w.2.2)])
      · rw [if_neg d2]
        exact xt_107 (v := false) h hb hab o1 o2 o3 o4 hz (by rw [q0, decide_eq_false (fun w => d2 (by rw [← w.2.2]; exact w.2.1))])
    · rw [if_neg d1]
      exact xt_107 (v := false) h hb hab o1 o2 o3 o4 hz (by rw [q0, decide_eq_false (fun w => d1 w.1)])
  have h39 : ∀ u u' : Bool, u = decide ((nt_way (X a) (Y a) * nt_way (X b) (Y b)) = 1) → u' = decide ((nt_way (X a) (Y a) * nt_way (X b) (Y b)) = -1) → pu_ok (f_X3_lookAtTwo_B39 fu j (nI a) (nI b) (bI u) (bI u') (K, I1, R, N)) (xz K R N I0 j n jm S0 m rb (fun k a b => nt_pr n ky k a b X Y) (fun k' a' b' => (((((Cv k' a' b') ∨ (k' = 0 ∧ a' = a ∧ b' = b)) ∨ (k' = 1 ∧ a' = a ∧ b' = b)) ∨ (k' = 12 ∧ a' = a ∧ b' = b)) ∨ (k' = 2 ∧ a' = a ∧ b' = b)) ∨ (k' = 4 ∧ a' = a ∧ b' = b))) := by
    intro u u' hu hu'
    subst hu hu'
    simp only [f_X3_lookAtTwo_B39, f_X3_lookAtTwo_B75, pu_gr h1 x1, pu_gr h1 y1, pu_is x2.1, pu_is y2.1, Option.bind_some, cx_q x2 x3 h5 ha hb o1 o3 (ox a ha p1 o1) (ox b hb p3 o3)]
    rw [cx_q y2 y3 h5 ha hb o2 o4 (oy a ha p2 o2) (oy b hb p4 o4), Option.bind_some]
    simp only [il_eq (show -1000 ≤ nt_q (Y a) (Y b) by omega) (show nt_q (Y a) (Y b) ≤ 1000 by omega), show (1 : Int32).toInt = 1 from rfl, show (2 : Int32).toInt = 2 from rfl]
    by_cases d1 : nt_q (Y a) (Y b) = 1
    · rw [if_pos d1]
      exact h80 true (decide_eq_true (Or.inl d1)).symm
    · rw [if_neg d1]
      by_cases d2 : nt_q (Y a) (Y b) = 2
      · rw [if_pos d2]
        exact h80 true (decide_eq_true (Or.inr d2)).symm
      · rw [if_neg d2]
        exact h80 false (decide_eq_false (fun w => w.elim d1 d2)).symm
  have h19 : ∀ u : Bool, u = decide ((nt_way (X a) (Y a) * nt_way (X b) (Y b)) = 1) → pu_ok (f_X3_lookAtTwo_B19 fu j (nI a) (nI b) (bI u) (K, I1, R, N)) (xz K R N I0 j n jm S0 m rb (fun k a b => nt_pr n ky k a b X Y) (fun k' a' b' => (((((Cv k' a' b') ∨ (k' = 0 ∧ a' = a ∧ b' = b)) ∨ (k' = 1 ∧ a' = a ∧ b' = b)) ∨ (k' = 12 ∧ a' = a ∧ b' = b)) ∨ (k' = 2 ∧ a' = a ∧ b' = b)) ∨ (k' = 4 ∧ a' = a ∧ b' = b))) := by
    intro u hu
    simp only [f_X3_lookAtTwo_B19, pu_is h1, Option.bind_some, xq_way hJ ha o1 o2, xq_way hJ hb o3 o4, hwm, li_le (show -1000 ≤ (nt_way (X a) (Y a) * nt_way (X b) (Y b)) by omega) (show (nt_way (X a) (Y a) * nt_way (X b) (Y b)) ≤ 1000 by omega), show (0 : Int32).toInt = 0 from rfl]
    by_cases d1 : 0 ≤ (nt_way (X a) (Y a) * nt_way (X b) (Y b))
    · rw [if_pos d1]
      exact h39 u false hu (decide_eq_false (by omega)).symm
    · rw [if_neg d1]
      exact h39 u true hu (decide_eq_true (by omega)).symm
  simp only [f_X3_lookAtTwo, pu_is h1, Option.bind_some, xq_way hJ ha o1 o2, xq_way hJ hb o3 o4, hwm, il_le (show -1000 ≤ (nt_way (X a) (Y a) * nt_way (X b) (Y b)) by omega) (show (nt_way (X a) (Y a) * nt_way (X b) (Y b)) ≤ 1000 by omega), show (0 : Int32).toInt = 0 from rfl]
  by_cases d1 : (nt_way (X a) (Y a) * nt_way (X b) (Y b)) ≤ 0
  · rw [if_pos d1]
    exact h19 false (decide_eq_false (by omega)).symm
  · rw [if_neg d1]
    exact h19 true (decide_eq_true (by omega)).symm
theorem xv (h : xj K I0 R j n jm m rb ky c1 c2 X Y) (ha : a < n) (o1 : X a = some p1) (o2 : Y a = some p2) (hmv : nt_mv (X a) (Y a) = true) (hz : xz K R N I0 j n jm S0 m rb (fun k a b => nt_pr n ky k a b X Y) Cv z) : pu_ok (f_X3_lookAtMove fu j (nI a) z) (xz K R N I0 j n jm S0 m rb (fun k a b => nt_pr n ky k a b X Y) (fun k' a' b' => (((Cv k' a' b') ∨ (k' = 7 ∧ a' = a ∧ b' = a)) ∨ (k' = 8 ∧ a' = a ∧ b' = a)) ∨ (k' = 10 ∧ a' = a ∧ b' = a))) := by
  obtain ⟨I1, rfl, z1, z2⟩ := id hz
  have hJ := h.keep z1
  obtain ⟨⟨h1, h2, h3⟩, ⟨x1, x2, x3, -⟩, ⟨y1, y2, y3, -⟩, ⟨-, e2, -⟩, -, -, ⟨hn2, h5⟩, ox, oy, -⟩ := id hJ
  have b1 := nt_hb (ox a ha p1 o1)
  have b2 := nt_hb (oy a ha p2 o2)
  have b3 := (ox a ha p1 o1).1
  have b4 := (oy a ha p2 o2).1
  obtain ⟨-, f1, -, g1⟩ := (x3 a ha).2 p1 o1
  obtain ⟨-, f2, -, g2⟩ := (y3 a ha).2 p2 o2
  have hmv' : nt_mv (some p1) (some p2) = true := by rw [← o1, ← o2]; exact hmv
  have q7 : nt_pr n ky 7 a a X Y = (if p1.1 ≤ p2.1 then nt_l0 (p2.1 - p1.1) (nt_h p2 - nt_h p1) else nt_l0 (p1.1 - p2.1) (nt_h p1 - nt_h p2)) := by
    simp only [nt_pr, decide_true, Bool.true_and, o1, o2, nt_lp, hmv']
  have q8 : nt_pr n ky 8 a a X Y = (nt_ld ky (X a) && decide (¬ (p2.1 = p1.1 + 1 ∧ nt_h p2 = nt_h p1 + 1))) := by
    simp only [nt_pr, decide_true, Bool.true_and, o1, o2, nt_as, hmv']
  have hs : nI p2.1 - nI p1.1 = iI ((p2.1 : Int) - p1.1) := by rw [iI_nat, iI_nat, iI_sub]
  simp only [f_X3_lookAtMove, pu_gr h1 x1, pu_gr h1 y1, pu_gr x2.1 x2.2.2.1, pu_gr y2.1 y2.2.2.1, pu_gr x2.1 x2.2.2.2.2.1, pu_gr y2.1 y2.2.2.2.2.1, cx_k x2 (show a < 5 by omega), cx_k y2 (show a < 5 by omega), cx_h x2 (show a < 5 by omega), cx_h y2 (show a < 5 by omega), Option.bind_some, f1, f2, g1, g2, ho_id, hs, iI_sub]
  have h140 : ∀ (z' : hp_S), xz K R N I0 j n jm S0 m rb (fun k a b => nt_pr n ky k a b X Y) (fun k' a' b' => ((Cv k' a' b') ∨ (k' = 7 ∧ a' = a ∧ b' = a)) ∨ (k' = 8 ∧ a' = a ∧ b' = a)) z' → ∀ u : Bool, ((u && decide (¬ ((p2.1 : Int) = p1.1 - 1))) = nt_pr n ky 10 a a X Y) → pu_ok (f_X3_lookAtMove_B140 fu j (nI a) (iI ((p2.1 : Int) - p1.1)) (bI u) z') (xz K R N I0 j n jm S0 m rb (fun k a b => nt_pr n ky k a b X Y) (fun k' a' b' => (((Cv k' a' b') ∨ (k' = 7 ∧ a' = a ∧ b' = a)) ∨ (k' = 8 ∧ a' = a ∧ b' = a)) ∨ (k' = 10 ∧ a' = a ∧ b' = a))) := by
    intro z' hz' u hu
    obtain ⟨I2, rfl, w1, w2⟩ := id hz'
    have h161 : ∀ v : Bool, v = nt_pr n ky 10 a a X Y → pu_ok (f_X3_lookAtMove_B161 fu j (nI a) (bI v) (nI a) 10 j (K, I2, R, N)) (xz K R N I0 j n jm S0 m rb (fun k a b => nt_pr n ky k a b X Y) (fun k' a' b' => (((Cv k' a' b') ∨ (k' = 7 ∧ a' = a ∧ b' = a)) ∨ (k' = 8 ∧ a' = a ∧ b' = a)) ∨ (k' = 10 ∧ a' = a ∧ b' = a))) := by
      intro v hv
      simp only [f_X3_lookAtMove_B161, pu_is h1, Option.bind_some]
      exact pu_bind (pu_mono (xa (k := 10) h hz' (by decide) ha hv) (fun z3 hz3 => pu_some hz3))
    simp only [f_X3_lookAtMove_B140, f_X3_lookAtMove_B160, bI_ite, il_eq (show -1000 ≤ (p2.1 : Int) - p1.1 by omega) (show (p2.1 : Int) - p1.1 ≤ 1000 by omega), show (-1 : Int32).toInt = -1 from rfl]
    cases u with
    | false =>
      rw [if_neg (by decide)]
      exact h161 false (by rw [← hu]; rfl)
    | true =>
      rw [if_pos rfl]
      by_cases d : (p2.1 : Int) - p1.1 = -1
      · rw [if_pos d]
        exact h161 false (by rw [← hu, decide_eq_false (by omega)]; rfl)
      · rw [if_neg d]
        exact h161 true (by rw [← hu, decide_eq_true (by omega)]; rfl)
  have h97 : ∀ (z' : hp_S), xz K R N I0 j n jm S0 m rb (fun k a b => nt_pr n ky k a b X Y) (fun k' a' b' => (Cv k' a' b') ∨ (k' = 7 ∧ a' = a ∧ b' = a)) z' → ∀ v : Bool, v = nt_pr n ky 8 a a X Y → pu_ok (f_X3_lookAtMove_B97 fu j (nI a) (iI ((p2.1 : Int) - p1.1)) (bI v) (nI a) 8 j z') (xz K R N I0 j n jm S0 m rb (fun k a b => nt_pr n ky k a b X Y) (fun k' a' b' => (((Cv k' a' b') ∨ (k' = 7 ∧ a' = a ∧ b' = a)) ∨ (k' = 8 ∧ a' = a ∧ b' = a)) ∨ (k' = 10 ∧ a' = a ∧ b' = a))) := by
    intro z' hz' v hv
    obtain ⟨I2, rfl, w1, w2⟩ := id hz'
    simp only [f_X3_lookAtMove_B97, f_X3_lookAtMove_B139, pu_is h1, Option.bind_some]
    refine pu_bind (pu_mono (xa (k := 8) h hz' (by decide) ha hv) (fun z3 hz3 => ?_))
    obtain ⟨I3, rfl, u1, u2⟩ := id hz3
    obtain ⟨-, ⟨-, -, x3', -⟩, -⟩ := h.keep u1
    have s0 : ho_li 2 (c1 + 1) 0 (K, I3, R, N) = some (I3 (c1 + 1) 0) := cx_s x2 (show 0 < 5 by decide)
    simp only [nn_le0 (show a < 100 by omega), pu_gr h1 x1, pu_gr x2.1 x2.2.1, s0, cx_so x3' (show 0 < n by omega), Option.bind_some, bI_ite, pu_is x2.1]
    by_cases ha0 : a = 0
    · rw [if_pos ha0]
      refine h140 _ hz3 false ?_
      show _ = (decide (a = a ∧ 0 < a) && nt_sv (X 0) (X a) (Y a))
      rw [show decide (a = a ∧ 0 < a) = false from decide_eq_false (by omega)]
      rfl
    · rw [if_neg ha0]
      have q10 : nt_pr n ky 10 a a X Y = nt_sv (X 0) (X a) (Y a) := by
        show (decide (a = a ∧ 0 < a) && nt_sv (X 0) (X a) (Y a)) = _
        rw [show decide (a = a ∧ 0 < a) = true from decide_eq_true ⟨rfl, by omega⟩, Bool.true_and]
      cases hp0 : X 0 with
      | none =>
        rw [if_neg (by decide)]
        exact h140 _ hz3 false (by rw [q10, hp0]; rfl)
      | some p0 =>
        rw [if_pos (by rfl)]
        have b0 := (ox 0 (by omega) p0 hp0).1
        have hst : f_X0_stepsUp fu c1 0 (nI a) (K, I3, R, N) = some (iI ((p1.1 : Int) - p0.1), (K, I3, R, N)) := cx_st (a := 0) x2 x3' h5 (by omega) ha hp0 o1
        rw [hst, Option.bind_some]
        simp only [fm_7 _ _ (show -200 ≤ (p1.1 : Int) - p0.1 by omega) (show (p1.1 : Int) - p0.1 ≤ 200 by omega), Option.bind_some, show (iI (((p1.1 : Int) - p0.1) % 7) = 6) ↔ (((p1.1 : Int) - p0.1) % 7 = 6) from il_eq (by omega) (by omega)]
        have q10' : nt_pr n ky 10 a a X Y = decide (((p1.1 : Int) - p0.1) % 7 = 6 ∧ ¬ ((p2.1 : Int) = p1.1 - 1)) := by
          rw [q10, hp0, o1, o2]
          simp only [nt_sv, hmv', Bool.true_and]
        by_cases d : ((p1.1 : Int) - p0.1) % 7 = 6
        · rw [if_pos d]
          refine h140 _ hz3 true ?_
          rw [q10', Bool.true_and]
          simp only [d, true_and]
        · rw [if_neg d]
          refine h140 _ hz3 false ?_
          rw [q10', show decide (((p1.1 : Int) - p0.1) % 7 = 6 ∧ ¬ ((p2.1 : Int) = p1.1 - 1)) = false from decide_eq_false (fun w => d w.1)]
          rfl
  have h63 : ∀ v : Bool, v = nt_pr n ky 7 a a X Y → pu_ok (f_X3_lookAtMove_B63 fu j (nI a) (iI ((p2.1 : Int) - p1.1)) (iI (nt_h p2 - nt_h p1)) (bI v) (nI a) 7 j (K, I1, R, N)) (xz K R N I0 j n jm S0 m rb (fun k a b => nt_pr n ky k a b X Y) (fun k' a' b' => (((Cv k' a' b') ∨ (k' = 7 ∧ a' = a ∧ b' = a)) ∨ (k' = 8 ∧ a' = a ∧ b' = a)) ∨ (k' = 10 ∧ a' = a ∧ b' = a))) := by
    intro v hv
    simp only [f_X3_lookAtMove_B63, f_X3_lookAtMove_B92, f_X3_lookAtMove_B96, pu_is h1, Option.bind_some]
    refine pu_bind (pu_mono (xa (k := 7) h hz (by decide) ha hv) (fun z' hz' => ?_))
    obtain ⟨I2, rfl, w1, w2⟩ := id hz'
    have hJ2 := h.keep w1
    simp only [pu_gr h1 x1, pu_is h1, xq_lead1 hJ2 ha, Option.bind_some, bI_ite, il_eq (show -1000 ≤ (p2.1 : Int) - p1.1 by omega) (show (p2.1 : Int) - p1.1 ≤ 1000 by omega), il_eq (show -1000 ≤ nt_h p2 - nt_h p1 by omega) (show nt_h p2 - nt_h p1 ≤ 1000 by omega), show (1 : Int32).toInt = 1 from rfl]
    cases hl : nt_ld ky (X a) with
    | false =>
      rw [if_neg (by decide)]
      exact h97 _ hz' false (by rw [q8, hl]; rfl)
    | true =>
      rw [if_pos rfl]
      rw [hl, Bool.true_and] at q8
      by_cases d1 : (p2.1 : Int) - p1.1 = 1
      · rw [if_pos d1]
        by_cases d2 : nt_h p2 - nt_h p1 = 1
        · rw [if_pos d2]
          refine h97 _ hz' false ?_
          rw [q8]
          have : p2.1 = p1.1 + 1 ∧ nt_h p2 = nt_h p1 + 1 := by omega
          simp [this]
        · rw [if_neg d2]
          refine h97 _ hz' true ?_
          rw [q8]
          have : ¬ (p2.1 = p1.1 + 1 ∧ nt_h p2 = nt_h p1 + 1) := by omega
          rw [decide_eq_true this]
      · rw [if_neg d1]
        refine h97 _ hz' true ?_
        rw [q8]
        have : ¬ (p2.1 = p1.1 + 1 ∧ nt_h p2 = nt_h p1 + 1) := by omega
        rw [decide_eq_true this]
  simp only [li_le (show -1000 ≤ (p2.1 : Int) - p1.1 by omega) (show (p2.1 : Int) - p1.1 ≤ 1000 by omega), show (0 : Int32).toInt = 0 from rfl]
  by_cases hle : p1.1 ≤ p2.1
  · rw [if_pos (by omega)]
    have e1 : iI ((p2.1 : Int) - p1.1) = nI (p2.1 - p1.1) := by
      rw [iI_nat]
      congr 1
      omega
    have hlp := xq_leap (fu := fu) (s := p2.1 - p1.1) (h := nt_h p2 - nt_h p1) (by omega) (by omega) (by omega) (K, I1, R, N)
    rw [← e1] at hlp
    rw [hlp, Option.bind_some]
    exact h63 _ (by rw [q7, if_pos hle])
  · rw [if_neg (by omega)]
    have e1 : -iI ((p2.1 : Int) - p1.1) = nI (p1.1 - p2.1) := by
      rw [iI_nat, show -iI ((p2.1 : Int) - p1.1) = 0 - iI ((p2.1 : Int) - p1.1) from (Int32.zero_sub _).symm, show (0 : Int32) = iI 0 from rfl, iI_sub]
      congr 1
      omega
    have e3 : -iI (nt_h p2 - nt_h p1) = iI (nt_h p1 - nt_h p2) := by
      rw [show -iI (nt_h p2 - nt_h p1) = 0 - iI (nt_h p2 - nt_h p1) from (Int32.zero_sub _).symm, show (0 : Int32) = iI 0 from rfl, iI_sub]
      congr 1
      omega
    have hlp := xq_leap (fu := fu) (s := p1.1 - p2.1) (h := nt_h p1 - nt_h p2) (by omega) (by omega) (by omega) (K, I1, R, N)
    rw [e1, e3, hlp, Option.bind_some]
    exact h63 _ (by rw [q7, if_neg hle])
end XT
