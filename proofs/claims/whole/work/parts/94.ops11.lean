/-! count, fault -/
theorem gd_e {l : List Nat} {i : Nat} (h : i < l.length) : l.getD i 0 = l[i] := by simp [List.getD_eq_getElem?_getD, h]
theorem rl_list_mem {mk : Nat → Int32} {q : Nat} : ∀ C, q ∈ rl_list mk C → ∃ c b, c < C ∧ b < 25 ∧ q = rl_code c b
  | 0, h => by cases h
  | C + 1, h => by
    rw [rl_list] at h
    rcases List.mem_append.mp h with h | h
    · obtain ⟨c, b, h1, h2, h3⟩ := rl_list_mem C h
      exact ⟨c, b, by omega, h2, h3⟩
    · unfold rl_cell at h
      obtain ⟨b, h1, h2⟩ := List.mem_map.mp h
      exact ⟨C, b, by omega, List.mem_range.mp (List.mem_filter.mp h1).1, h2.symm⟩
theorem rl_code_parts {c b : Nat} (hb : b < 25) : rl_code c b / 1000 = c / 14 ∧ rl_code c b % 50 / 7 = b / 5 ∧ rl_code c b % 50 % 7 = (if b / 5 = b % 5 then 0 else b % 5 + 1) := by
  have hk : c % 14 < 14 := Nat.mod_lt _ (by decide)
  unfold rl_code
  have he : (if b / 5 = b % 5 then 0 else b % 5 + 1) ≤ 5 := by split <;> omega
  generalize (if b / 5 = b % 5 then 0 else b % 5 + 1) = e at he ⊢
  have ha : b / 5 < 5 := by omega
  generalize b / 5 = a at ha ⊢
  generalize c / 14 = m
  generalize c % 14 = k at hk ⊢
  have h1 : (1000 * m + 50 * k + 7 * a + e) / 1000 = m := by omega
  have h2 : (1000 * m + 50 * k + 7 * a + e) % 50 = 7 * a + e := by omega
  refine ⟨h1, ?_, ?_⟩
  · rw [h2]
    omega
  · rw [h2]
    omega
theorem rl_code_lt {c b : Nat} (hc : c < 1680) (hb : b < 25) : rl_code c b < 200000 := by
  unfold rl_code
  split <;> omega
theorem rl_list_lt {mk : Nat → Int32} {C : Nat} (hC : C ≤ 1680) {i : Nat} (hi : i < (rl_list mk C).length) : (rl_list mk C).getD i 0 < 200000 := by
  rw [gd_e hi]
  obtain ⟨c, b, h1, h2, h3⟩ := rl_list_mem C (List.getElem_mem hi)
  rw [h3]
  exact rl_code_lt (by omega) h2
theorem dv_n {a d : Nat} (ha : a < 2 ^ 31) (h0 : 0 < d) (hd : d < 2 ^ 31) : ho_dv (nI a) (nI d) = some (nI (a / d)) := by
  unfold ho_dv
  rw [if_neg (nI_ne0 h0 hd), pk_div ha h0 hd]
theorem rm_n {a d : Nat} (ha : a < 2 ^ 31) (h0 : 0 < d) (hd : d < 2 ^ 31) : ho_rm (nI a) (nI d) = some (nI (a % d)) := by
  unfold ho_rm
  rw [if_neg (nI_ne0 h0 hd), pk_rem ha h0 hd]
section OC
variable {K : Nat → Nat × Nat} {I : Nat → Nat → Int32} {R : Nat → Nat → Option Nat} {N fu x y n : Nat} {d : rl_D} {rb ky : Int32} {g rc : Nat} {rf rt : Nat → Nat} {xc : Nat} {xk xt : Nat → Nat}
theorem y_cnt (hY : sp_Y K R y) {l : List Nat} (hl : l.length ≤ 12300) (h19 : I y 19 = nI l.length) (h14 : ∀ i, i < l.length → I (y + 14) i = nI (l.getD i 0)) (hlt : ∀ i, i < l.length → l.getD i 0 < 200000) {k : Nat} (hk : k < 14) (kk : Int32 → hp_S → Option (Int32 × hp_S)) : ∀ (s w i : Nat), i + s = l.length → s < w → f_X7_count_L41 fu y (nI k) kk w (nI ((l.take i).filter (fun q => q % 1000 / 50 = k)).length) (nI i) (K, I, R, N) = kk (nI (l.filter (fun q => q % 1000 / 50 = k)).length) (K, I, R, N) := by
  intro s
  induction s with
  | zero =>
    intro w i h1 h2
    obtain ⟨w, rfl⟩ : ∃ w', w = w' + 1 := ⟨w - 1, by omega⟩
    simp only [f_X7_count_L41, pu_gi hY.k, h19, Option.bind_some]
    rw [if_pos (nI_le (by omega) (by omega)), List.take_of_length_le (by omega)]
  | succ s ih =>
    intro w i h1 h2
    obtain ⟨w, rfl⟩ : ∃ w', w = w' + 1 := ⟨w - 1, by omega⟩
    have hi : i < l.length := by omega
    have e1 := h14 i hi
    have e2 := hlt i hi
    simp only [f_X7_count_L41, f_X7_count_B72, pu_gi hY.k, h19, Option.bind_some, pu_gr hY.k hY.f21.1, pu_li hY.f21.2 (show i < 12300 by omega) (by decide), e1, ho_id]
    rw [if_neg (nI_ge hi (by omega)), show (1000 : Int32) = nI 1000 from rfl, rm_n (by omega) (by decide) (by decide), Option.bind_some, show (50 : Int32) = nI 50 from rfl, dv_n (by omega) (by decide) (by decide), Option.bind_some]
    have htk : l.take (i + 1) = l.take i ++ [l.getD i 0] := by
      rw [List.take_succ_eq_append_getElem hi, gd_e hi]
    have hih := ih w (i + 1) (by omega) (by omega)
    rw [htk, List.filter_append, List.length_append] at hih
    by_cases hq : l.getD i 0 % 1000 / 50 = k
    · rw [if_pos (by rw [hq])]
      rw [List.filter_cons_of_pos (by simpa using hq)] at hih
      rw [show (1 : Int32) = nI 1 from rfl, nI_add, nI_add]
      exact hih
    · rw [if_neg (fun w => hq ((nI_eq (by omega) (by omega)).mp w))]
      rw [List.filter_cons_of_neg (by simpa using hq)] at hih
      rw [show (0 : Int32) = nI 0 from rfl, show (1 : Int32) = nI 1 from rfl, nI_add, nI_add]
      exact hih
theorem op_count (h : rl_W K I R x y n d rb ky g rc rf rt xc xk xt) (v : Int32) (hfu : 12301 ≤ fu) : pu_ok (f_X6_count fu x v (K, I, R, N)) (fun r => pu_ok (f_X7_count fu y v r.2) (fun q => r.1 = q.1 ∧ rl_V x y q.2)) := by
  obtain ⟨a1, a2, a3, a4, a5, a6, a7, a8, a9, a10, a11⟩ := id h
  have hV : rl_V x y (K, I, R, N) := ⟨K, I, R, N, n, d, rb, ky, g, rc, rf, rt, xc, xk, xt, rfl, h⟩
  obtain ⟨jm, j1, j2, j3, j4, j5, j6, j7, j8, j9, j10⟩ := a11
  obtain ⟨-, p1, p2, p3, -⟩ := a1.j
  simp only [f_X6_count, pu_gr a1.k a1.j.1, pu_gr p1 p2, Option.bind_some, in_kind, in_ite]
  by_cases hv : 0 ≤ v ∧ v ≤ 13
  · rw [if_pos hv]
    obtain ⟨k, hk, rfl⟩ := in_rng (m := 13) rfl (by decide) hv
    have e1 := j10 k (by omega)
    have e1' : I (sp_t x n + 9 + 1 + 3) k = _ := e1
    simp only [pu_gr p3.1 p3.2.2.2.1, pu_li p3.2.2.2.2.2.2 (show k < 14 by omega) (by decide), Option.bind_some]
    refine pu_some ?_
    simp only [f_X7_count, in_y, Option.bind_some, in_ite]
    rw [if_pos (show 0 ≤ nI k ∧ nI k ≤ 15 from in_rng2 (m := 15) (k := k) rfl (by decide) (by omega)), if_pos (show nI k < 14 from nI_lt (show k < 14 by omega) (by decide))]
    have := y_cnt (fu := fu) (N := N) (k := k) a2 j5 j7 j8 (fun i hi => rl_list_lt (by omega) hi) (by omega) (f_X7_count_B80 fu y (nI k)) _ fu 0 (Nat.zero_add _) (by omega)
    simp only [List.take_zero, List.filter_nil, List.length_nil, nI_0] at this
    rw [this]
    exact pu_some ⟨e1', hV⟩
  · rw [if_neg hv]
    simp only [f_X7_count, in_y, Option.bind_some, in_ite, f_X6_count_B48, f_X7_count_B36, pu_gi p3.1, pu_gi a2.k]
    by_cases h14 : v = 14
    · subst h14
      rw [if_pos rfl]
      refine pu_some ?_
      simp only
      rw [if_pos (by decide), if_neg (by decide)]
      simp only [if_true, pu_gi a2.k, Option.bind_some]
      refine pu_some ⟨?_, hV⟩
      show I (sp_t x n + 10) 4 = I y 19
      rw [j6, j7]
    · rw [if_neg h14]
      by_cases h15 : v = 15
      · subst h15
        rw [if_pos rfl]
        refine pu_some ?_
        simp only
        rw [if_pos (by decide), if_neg (by decide), if_neg (by decide)]
        simp only [pu_gi a2.k, Option.bind_some]
        exact pu_some ⟨j9, hV⟩
      · rw [if_neg h15]
        refine pu_some ?_
        simp only
        have hno : ¬ (0 ≤ v ∧ v ≤ 15) := by
          intro w
          obtain ⟨k, hk, rfl⟩ := in_rng (m := 15) rfl (by decide) w
          have : k = 14 ∨ k = 15 ∨ k ≤ 13 := by omega
          rcases this with rfl | rfl | hk'
          · exact h14 rfl
          · exact h15 rfl
          · exact hv (in_rng2 (m := 13) rfl (by decide) hk')
        rw [if_neg hno]
        exact pu_some ⟨rfl, hV⟩
/-- the class tells a fault -/
theorem x_bit {m : Int32} (x1 : Int32) (kk : hp_S → Option (Int32 × hp_S)) (z : hp_S) : ∀ (s w p r : Nat), p + s = 25 → s < w → r < ((List.range' p s).filter (rl_bit m)).length → f_X2_bitAfter_L4 fu m x1 kk w (nI r) (nI p) z = some (nI (((List.range' p s).filter (rl_bit m)).getD r 0), z) := by
  intro s
  induction s with
  | zero =>
    intro w p r h1 h2 h3
    exact absurd h3 (Nat.not_lt_zero _)
  | succ s ih =>
    intro w p r h1 h2 h3
    obtain ⟨w, rfl⟩ : ∃ w', w = w' + 1 := ⟨w - 1, by omega⟩
    have hp : p < 25 := by omega
    have hq : (List.range' p (s + 1)) = p :: List.range' (p + 1) s := rfl
    rw [hq] at h3 ⊢
    simp only [f_X2_bitAfter_L4, f_X2_bitAfter_B28, ho_id, Option.bind_some, nI_1]
    rw [if_neg (show ¬ (25 : Int32) ≤ nI p from nI_ge (show p < 25 from hp) (by decide)), b_get m (by omega)]
    have hbt : bt m p = rl_bit m p := rfl
    rw [hbt]
    cases hb : rl_bit m p with
    | true =>
      rw [List.filter_cons_of_pos hb] at h3 ⊢
      rw [if_pos (by rfl)]
      cases r with
      | zero =>
        rw [if_pos nI_0]
        rfl
      | succ r =>
        have hr : r < 2 ^ 31 - 1 := by
          have q1 := List.length_filter_le (rl_bit m) (List.range' (p + 1) s)
          rw [List.length_range'] at q1
          simp only [List.length_cons] at h3
          omega
        rw [if_neg (nI_ne0 (Nat.succ_pos r) (by omega)), pk_m1]
        rw [ih w (p + 1) r (by omega) (by omega) (by simpa using h3)]
        rfl
    | false =>
      rw [List.filter_cons_of_neg (by rw [hb]; decide)] at h3 ⊢
      rw [if_neg (by decide)]
      exact ih w (p + 1) r (by omega) (by omega) h3
theorem x_bitA {m : Int32} {r : Nat} (hfu : 26 ≤ fu) (hr : r < ((List.range 25).filter (rl_bit m)).length) (z : hp_S) : f_X2_bitAfter fu m (nI r) z = some (nI (((List.range 25).filter (rl_bit m)).getD r 0), z) := by
  rw [List.range_eq_range'] at hr ⊢
  have := x_bit (fu := fu) (nI r) (f_X2_bitAfter_B34 fu m (nI r)) z 25 fu 0 r rfl (by omega) hr
  rw [nI_0] at this
  exact this
/-- what a code tells -/
def rl_ans (tm : Nat → Int32) (c b f : Nat) : Int32 := if f = 0 then nI (c % 14) else if f = 1 then tm (c / 14) else if f = 2 then nI (b / 5) else if f = 3 then (if b / 5 = b % 5 then -1 else nI (b % 5)) else nI (c / 14)
theorem x_cell {f : Nat} (hF : sp_F K R f) {c r k : Nat} (hc : c < 1680) (hk : k ≤ 4) (hfu : 26 ≤ fu) (hr : r < ((List.range 25).filter (rl_bit (I (f + 1) c))).length) : f_X2_tellOfCell fu f (nI c) (nI r) (nI k) (K, I, R, N) = some (rl_ans (I (f + 2)) c (((List.range 25).filter (rl_bit (I (f + 1) c))).getD r 0) k, (K, I, R, N)) := by
  obtain ⟨f1, f2, f3, f4, f5, f6, f7⟩ := hF
  have hb : ((List.range 25).filter (rl_bit (I (f + 1) c))).getD r 0 < 25 := by
    rw [gd_e hr]
    exact List.mem_range.mp (List.mem_filter.mp (List.getElem_mem hr)).1
  simp only [f_X2_tellOfCell, f_X2_tellOfCell_B87, pu_gr f1 f2, pu_li f5 hc (by decide), Option.bind_some, x_bitA hfu hr]
  generalize ((List.range 25).filter (rl_bit (I (f + 1) c))).getD r 0 = b at hb ⊢
  rw [show (5 : Int32) = nI 5 from rfl, dv_n (by omega) (by decide) (by decide), rm_n (by omega) (by decide) (by decide), show (14 : Int32) = nI 14 from rfl, dv_n (by omega) (by decide) (by decide), rm_n (by omega) (by decide) (by decide)]
  simp only [Option.bind_some, pu_gr f1 f3, pu_li f6 (show c / 14 < 120 by omega) (by decide)]
  have : k = 0 ∨ k = 1 ∨ k = 2 ∨ k = 3 ∨ k = 4 := by omega
  rcases this with rfl | rfl | rfl | rfl | rfl
  · rfl
  · rfl
  · rfl
  · show (if nI (b / 5) = nI (b % 5) then some ((-1 : Int32), (K, I, R, N)) else some (nI (b % 5), (K, I, R, N))) = some ((if b / 5 = b % 5 then -1 else nI (b % 5)), (K, I, R, N))
    by_cases hq : b / 5 = b % 5
    · rw [if_pos (by rw [hq]), if_pos hq]
    · rw [if_neg (fun w => hq ((nI_eq (by omega) (by omega)).mp w)), if_neg hq]
  · rfl
theorem rl_list_pre {mk : Nat → Int32} {c : Nat} : ∀ C, c ≤ C → ∃ l, rl_list mk C = rl_list mk c ++ l
  | 0, h => ⟨[], by have : c = 0 := by omega
                    subst this
                    simp [rl_list]⟩
  | C + 1, h => by
    by_cases hc : c = C + 1
    · subst hc
      exact ⟨[], by simp⟩
    · obtain ⟨l, hl⟩ := rl_list_pre (mk := mk) C (show c ≤ C by omega)
      exact ⟨l ++ rl_cell mk C, by rw [rl_list, hl, List.append_assoc]⟩
theorem x_tell {f jm : Nat} (hF : sp_F K R f) (h2 : I f 2 = nI jm) (hjm : jm ≤ 120) (hb : ∀ c, c < jm * 14 → ∀ b, 25 ≤ b → rl_bit (I (f + 1) c) b = false) {i k : Nat} (hk : k ≤ 4) (hi : i < (rl_list (I (f + 1)) (jm * 14)).length) (hi2 : i < 12300) (hfu : 26 ≤ fu) (x1 : Int32) (kk : hp_S → Option (Int32 × hp_S)) : ∀ (s w c r : Nat), c + s = jm * 14 → s < w → (rl_list (I (f + 1)) c).length + r = i → ∃ c' b', c' < jm * 14 ∧ b' < 25 ∧ (rl_list (I (f + 1)) (jm * 14)).getD i 0 = rl_code c' b' ∧ f_X2_tell_L5 fu f x1 (nI k) kk w (nI r) (nI c) (K, I, R, N) = some (rl_ans (I (f + 2)) c' b' k, (K, I, R, N)) := by
  obtain ⟨f1, f2, f3, f4, f5, f6, f7⟩ := id hF
  have e14 : nI jm * 14 = nI (jm * 14) := by rw [show (14 : Int32) = nI 14 from rfl, pk_mul]
  intro s
  induction s with
  | zero =>
    intro w c r q1 q2 q3
    have : c = jm * 14 := by omega
    subst this
    omega
  | succ s ih =>
    intro w c r q1 q2 q3
    obtain ⟨w, rfl⟩ : ∃ w', w = w' + 1 := ⟨w - 1, by omega⟩
    have hc : c < jm * 14 := by omega
    have hcl : (rl_cell (I (f + 1)) c).length = ((List.range 25).filter (rl_bit (I (f + 1) c))).length := by
      unfold rl_cell
      rw [List.length_map]
    have hc25 : ((List.range 25).filter (rl_bit (I (f + 1) c))).length ≤ 25 := by
      have := List.length_filter_le (rl_bit (I (f + 1) c)) (List.range 25)
      rw [List.length_range] at this
      exact this
    simp only [f_X2_tell_L5, pu_gi f1, h2, e14, Option.bind_some, pu_gr f1 f2, pu_li f5 (show c < 1680 by omega) (by decide), bc_25 (hb c hc), ho_id, pu_is f1]
    rw [if_neg (nI_ge hc (by omega))]
    by_cases hr : ((List.range 25).filter (rl_bit (I (f + 1) c))).length ≤ r
    · rw [if_pos (nI_le hr (by omega)), pk_sub hr, nI_1]
      refine ih w (c + 1) _ (by omega) (by omega) ?_
      rw [rl_list, List.length_append, hcl]
      omega
    · rw [if_neg (nI_ge (by omega) (by omega)), x_cell hF (by omega) hk hfu (by omega), Option.bind_some]
      have hrl : r < ((List.range 25).filter (rl_bit (I (f + 1) c))).length := by omega
      refine ⟨c, ((List.range 25).filter (rl_bit (I (f + 1) c))).getD r 0, hc, ?_, ?_, rfl⟩
      · rw [gd_e hrl]
        exact List.mem_range.mp (List.mem_filter.mp (List.getElem_mem hrl)).1
      · obtain ⟨l, hl⟩ := rl_list_pre (mk := I (f + 1)) (c := c + 1) (jm * 14) (by omega)
        rw [hl, rl_list, List.getD_eq_getElem?_getD, List.getElem?_append_left (by rw [List.length_append, hcl]; omega), List.getElem?_append_right (by omega), show i - (rl_list (I (f + 1)) c).length = r by omega]
        unfold rl_cell
        rw [List.getElem?_map, List.getElem?_eq_getElem hrl, gd_e hrl]
        rfl
theorem op_fault (h : rl_W K I R x y n d rb ky g rc rf rt xc xk xt) (u v : Int32) (hfu : 12301 ≤ fu) : pu_ok (f_X6_fault fu x u v (K, I, R, N)) (fun r => pu_ok (f_X7_fault fu y u v r.2) (fun q => r.1 = q.1 ∧ rl_V x y q.2)) := by
  obtain ⟨a1, a2, a3, a4, a5, a6, a7, a8, a9, a10, a11⟩ := id h
  have hV : rl_V x y (K, I, R, N) := ⟨K, I, R, N, n, d, rb, ky, g, rc, rf, rt, xc, xk, xt, rfl, h⟩
  obtain ⟨jm, j1, j2, j3, j4, j5, j6, j7, j8, j9, j10⟩ := a11
  obtain ⟨-, p1, p2, p3, -⟩ := a1.j
  have j6' : I (sp_t x n + 9 + 1) 4 = _ := j6
  simp only [f_X6_fault, f_X6_fault_B31, pu_gr a1.k a1.j.1, pu_gr p1 p2, pu_gi p3.1, Option.bind_some, in_x, in_ite, j6']
  by_cases hu : 0 ≤ u ∧ u ≤ nI (rl_list (I (sp_t x n + 10 + 1)) (jm * 14)).length - 1
  · rw [if_pos hu]
    by_cases hv : 0 ≤ v ∧ v ≤ 4
    · rw [if_pos hv]
      obtain ⟨k, hk, rfl⟩ := in_rng (m := 4) rfl (by decide) hv
      obtain ⟨i, hi, rfl⟩ := in_lt (by omega) hu
      obtain ⟨c, b, q1, q2, q3, q4⟩ := x_tell (N := N) (fu := fu) (f := sp_t x n + 9 + 1) p3 j2 j1 j4 hk hi (by omega) (by omega) (nI i) (f_X2_tell_B55 fu (sp_t x n + 9 + 1) (nI i) (nI k)) (jm * 14) fu 0 i (by omega) (by omega) (by simp [rl_list])
      rw [nI_0] at q4
      simp only [pu_is p3.1, Option.bind_some, f_X2_tell, q4]
      refine pu_some ?_
      have q3' : (rl_list (I (sp_t x n + 10 + 1)) (jm * 14)).getD i 0 = rl_code c b := q3
      have e14 := j8 i hi
      rw [q3'] at e14
      have hlt : rl_code c b < 200000 := rl_code_lt (by omega) q2
      obtain ⟨w1, w2, w3⟩ := rl_code_parts (c := c) q2
      have w4 := rl_code_k (c := c) q2
      simp only [f_X7_fault, f_X7_fault_B23, pu_gi a2.k, j7, in_y, Option.bind_some, in_ite]
      rw [if_pos hu, if_pos hv]
      simp only [pu_gr a2.k a2.f21.1, pu_li a2.f21.2 (show i < 12300 by omega) (by decide), Option.bind_some, e14]
      rw [show (1000 : Int32) = nI 1000 from rfl, dv_n (by omega) (by decide) (by decide), rm_n (by omega) (by decide) (by decide), show (50 : Int32) = nI 50 from rfl, rm_n (by omega) (by decide) (by decide)]
      simp only [Option.bind_some]
      rw [dv_n (by omega) (by decide) (by decide), show (7 : Int32) = nI 7 from rfl, dv_n (by omega) (by decide) (by decide), rm_n (by omega) (by decide) (by decide)]
      simp only [Option.bind_some, w1, w2, w3, w4, pu_gr a2.k a2.f22.1, pu_li a2.f22.2 (show c / 14 < 120 by omega) (by decide)]
      have hk5 : k = 0 ∨ k = 1 ∨ k = 2 ∨ k = 3 ∨ k = 4 := by omega
      rcases hk5 with rfl | rfl | rfl | rfl | rfl
      · exact pu_some ⟨rfl, hV⟩
      · exact pu_some ⟨j3 (c / 14) (by omega), hV⟩
      · exact pu_some ⟨rfl, hV⟩
      · refine pu_some ⟨?_, hV⟩
        show (if b / 5 = b % 5 then (-1 : Int32) else nI (b % 5)) = nI (if b / 5 = b % 5 then 0 else b % 5 + 1) - 1
        by_cases hq : b / 5 = b % 5
        · rw [if_pos hq, if_pos hq]
          rfl
        · rw [if_neg hq, if_neg hq, nI_pred]
      · exact pu_some ⟨rfl, hV⟩
    · rw [if_neg hv]
      refine pu_some ?_
      simp only [f_X7_fault, f_X7_fault_B23, pu_gi a2.k, j7, in_y, Option.bind_some, in_ite]
      rw [if_pos hu, if_neg hv]
      exact pu_some ⟨rfl, hV⟩
  · rw [if_neg hu]
    refine pu_some ?_
    simp only [f_X7_fault, f_X7_fault_B23, pu_gi a2.k, j7, in_y, Option.bind_some, in_ite]
    rw [if_neg hu]
    exact pu_some ⟨rfl, hV⟩
end OC
