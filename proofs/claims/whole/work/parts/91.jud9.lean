/-! the class judges: exceptions, sums -/
theorem jf2_set {E E' : Nat → Bool} {p : Nat → Nat → Bool} {c0 : Nat} (h0 : E c0 = false) (h1 : E' c0 = true) (hne : ∀ c, c ≠ c0 → E' c = E c) : ∀ C, (jf E' p C).2 = (jf E p C).2 + (if c0 < C then (jc (p c0) c0).length else 0)
  | 0 => by simp [jf]
  | C + 1 => by
    have ih := jf2_set (p := p) h0 h1 hne C
    rw [jf, jf]
    by_cases hc : C = c0
    · subst hc
      rw [h0, h1]
      simp only [ju, if_true]
      rw [ih, if_neg (Nat.lt_irrefl _), if_pos (Nat.lt_succ_self _)]
      simp
    · rw [hne C hc]
      have e : (c0 < C + 1) = (c0 < C) := propext ⟨fun q => by omega, fun q => by omega⟩
      cases hE : E C
      · simp only [ju, Bool.false_eq_true, if_false, e]
        exact ih
      · simp only [ju, if_true, e]
        rw [ih]
        omega
theorem jf_congr {E E' : Nat → Bool} {p p' : Nat → Nat → Bool} : ∀ C, (∀ c, c < C → E c = E' c) → (∀ c, c < C → ∀ b, b < 25 → p c b = p' c b) → jf E p C = jf E' p' C
  | 0, _, _ => rfl
  | C + 1, h, h' => by
    rw [jf, jf, h C (by omega), jf_congr C (fun c hc => h c (by omega)) (fun c hc => h' c (by omega))]
    have : jc (p C) C = jc (p' C) C := by
      unfold jc
      rw [List.filter_congr (fun b hb => h' C (by omega) b (List.mem_range.mp hb))]
    rw [this]
/-- the marks, told -/
theorem rl_list_jf {mk : Nat → Int32} {E : Nat → Bool} {p : Nat → Nat → Bool} : ∀ C, (∀ c, c < C → ∀ b, b < 25 → rl_bit (mk c) b = (p c b && !E c)) → rl_list mk C = (jf E p C).1
  | 0, _ => rfl
  | C + 1, h => by
    rw [rl_list, jf, rl_list_jf C (fun c hc => h c (by omega))]
    unfold rl_cell
    rw [List.filter_congr (fun b hb => h C (by omega) b (List.mem_range.mp hb))]
    cases hE : E C
    · simp only [ju, Bool.false_eq_true, if_false, Bool.not_false, Bool.and_true]
      rfl
    · simp only [ju, if_true, Bool.not_true, Bool.and_false]
      simp
theorem rl_code_k {c b : Nat} (hb : b < 25) : rl_code c b % 1000 / 50 = c % 14 := by
  have hk : c % 14 < 14 := Nat.mod_lt _ (by decide)
  have key : ∀ m k r, k < 14 → r < 50 → (1000 * m + 50 * k + r) % 1000 / 50 = k := by
    intro m k r h1 h2
    have : (1000 * m + 50 * k + r) % 1000 = 50 * k + r := by omega
    rw [this]
    omega
  unfold rl_code
  rw [Nat.add_assoc (1000 * (c / 14) + 50 * (c % 14))]
  refine key _ _ _ hk ?_
  split <;> omega
section JX
variable {K : Nat → Nat × Nat} {I I' Iw : Nat → Nat → Int32} {R : Nat → Nat → Option Nat} {N fu j jm : Nat} {T : Nat → Nat} {p : Nat → Nat → Bool}
def jv (Iw : Nat → Nat → Int32) (j jm : Nat) (p : Nat → Nat → Bool) (E : Nat → Bool) (I : Nat → Nat → Int32) : Prop := (∀ r, r ≠ j + 1 → r ≠ j + 2 → I r = Iw r) ∧ (∀ k, k ≠ 5 → I (j + 1) k = Iw (j + 1) k) ∧ I (j + 1) 5 = nI (jf E p (jm * 14)).2 ∧ ∀ c, c < jm * 14 → ∀ b, rl_bit (I (j + 2) c) b = (p c b && !E c)
def jEm (T : Nat → Nat) (k u m : Nat) (E : Nat → Bool) (c : Nat) : Bool := E c || decide (c % 14 = k ∧ c / 14 < m ∧ T (c / 14) = u)
theorem xl (hF : sp_F K R (j + 1)) (h2 : Iw (j + 1) 2 = nI jm) (hjm : jm ≤ 120) (h3 : ∀ i, i < jm → Iw (j + 3) i = nI (T i) ∧ T i < 1000) (hp : ∀ c b, 25 ≤ b → p c b = false) {E : Nat → Bool} {k u : Nat} (hk : k < 14) (hu : u < 1000) : ∀ (s w m : Nat) (I : Nat → Nat → Int32), m + s = jm → s < w → jv Iw j jm p (jEm T k u m E) I → pu_ok (f_X2_leaveOut_L2 fu (j + 1) (nI k) (nI u) (f_X2_leaveOut_B61 fu (j + 1) (nI k) (nI u)) w (nI m) (K, I, R, N)) (fun z => ∃ I', z = (K, I', R, N) ∧ jv Iw j jm p (jEm T k u jm E) I') := by
  obtain ⟨f1, f2, f3, f4, f5, f6, f7⟩ := id hF
  intro s
  induction s with
  | zero =>
    intro w m I q1 q2 h
    obtain ⟨w, rfl⟩ : ∃ w', w = w' + 1 := ⟨w - 1, by omega⟩
    have : m = jm := by omega
    subst this
    simp only [f_X2_leaveOut_L2, f_X2_leaveOut_B61, pu_gi f1, h.2.1 2 (by decide), h2, Option.bind_some]
    rw [if_pos (Int32.le_refl _)]
    exact pu_some ⟨I, rfl, h⟩
  | succ s ih =>
    intro w m I q1 q2 h
    obtain ⟨w, rfl⟩ : ∃ w', w = w' + 1 := ⟨w - 1, by omega⟩
    have hm : m < jm := by omega
    have e3 : I (j + 1 + 2) m = nI (T m) := by rw [show j + 1 + 2 = j + 3 by omega, h.1 _ (by omega) (by omega)]; exact (h3 m hm).1
    have t3 := (h3 m hm).2
    simp only [f_X2_leaveOut_L2, f_X2_leaveOut_B55, pu_gi f1, h.2.1 2 (by decide), h2, Option.bind_some, pu_gr f1 f3, pu_li f6 (show m < 120 by omega) (by decide), e3, ho_id, nI_1, xj_ix, pu_gr f1 f2, pu_li f5 (show m * 14 + k < 1680 by omega) (by decide)]
    rw [if_neg (nI_ge hm (by omega))]
    have hc14 : (m * 14 + k) % 14 = k := by omega
    have hd14 : (m * 14 + k) / 14 = m := by omega
    have hEm : jEm T k u m E (m * 14 + k) = E (m * 14 + k) := by
      unfold jEm
      rw [hd14, decide_eq_false (by omega), Bool.or_false]
    have hne : ∀ c, c ≠ m * 14 + k → jEm T k u (m + 1) E c = jEm T k u m E c := by
      intro c hc
      unfold jEm
      congr 1
      by_cases hq : c % 14 = k ∧ c / 14 < m ∧ T (c / 14) = u
      · rw [decide_eq_true hq, decide_eq_true ⟨hq.1, by omega, hq.2.2⟩]
      · rw [decide_eq_false hq, decide_eq_false (fun w => hq ⟨w.1, by omega, w.2.2⟩)]
    by_cases hT : T m = u
    · rw [if_pos (by rw [hT])]
      have hEm1 : jEm T k u (m + 1) E (m * 14 + k) = true := by
        unfold jEm
        rw [hc14, hd14, decide_eq_true ⟨rfl, by omega, hT⟩, Bool.or_true]
      have hC : m * 14 + k < jm * 14 := by omega
      have hbits := h.2.2.2 (m * 14 + k) hC
      rw [hEm] at hbits
      have hbc := bc_25 (x := I (j + 1 + 1) (m * 14 + k)) (fun b hb => by rw [show j + 1 + 1 = j + 2 from rfl, hbits b, hp _ b hb]; rfl) (K, I, R, N) fu
      rw [hbc, Option.bind_some]
      simp only [pu_pi f1, pu_gr f1 f2, pu_si f5 (show m * 14 + k < 1680 by omega) (by decide), Option.bind_some, nI_add, h.2.2.1]
      refine ih w (m + 1) _ (by omega) (by omega) ⟨fun r w1 w2 => by rw [pu_set_row _ _ _ _ (by omega), pu_set_row _ _ _ _ w1]; exact h.1 r w1 w2, fun k' hk' => by rw [pu_set_row _ _ _ _ (by omega), pu_set_off _ _ _ _ hk']; exact h.2.1 k' hk', ?_, fun c hc b => ?_⟩
      · rw [pu_set_row _ _ _ _ (by omega), pu_set_at]
        congr 1
        cases hE0 : E (m * 14 + k) with
        | true =>
          have : jEm T k u (m + 1) E = jEm T k u m E := by
            funext c
            by_cases hc : c = m * 14 + k
            · rw [hc, hEm1, hEm, hE0]
            · exact hne c hc
          rw [this]
          have : (List.range 25).filter (rl_bit (I (j + 1 + 1) (m * 14 + k))) = [] := List.filter_eq_nil_iff.mpr (fun b _ => by rw [show j + 1 + 1 = j + 2 from rfl, hbits b, hE0]; simp)
          rw [this]
          rfl
        | false =>
          rw [jf2_set (p := p) (by rw [hEm]; exact hE0) hEm1 hne (jm * 14), if_pos hC]
          congr 1
          unfold jc
          rw [List.length_map]
          congr 1
          refine List.filter_congr (fun b _ => ?_)
          rw [show j + 1 + 1 = j + 2 from rfl, hbits b, hE0]
          simp
      · rw [pu_set]
        rw [if_pos (show j + 2 = j + 1 + 1 from rfl)]
        by_cases hcc : c = m * 14 + k
        · rw [if_pos hcc, hcc, hEm1]
          have e0 : rl_bit 0 b = false := b_0 b
          rw [e0]
          simp
        · rw [if_neg hcc, pu_set_row _ _ _ _ (by omega), hne c hcc]
          exact h.2.2.2 c hc b
    · rw [if_neg (fun q => hT ((nI_eq (by omega) (by omega)).mp q))]
      have : jEm T k u (m + 1) E = jEm T k u m E := by
        funext c
        by_cases hc : c = m * 14 + k
        · rw [hc, hEm]
          unfold jEm
          rw [hd14, decide_eq_false (fun w => hT w.2.2), Bool.or_false]
        · exact hne c hc
      exact ih w (m + 1) I (by omega) (by omega) (by rw [this]; exact h)
theorem xsum (hF : sp_F K R (j + 1)) (h2 : Iw (j + 1) 2 = nI jm) (hjm : jm ≤ 120) (hb : ∀ c, c < jm * 14 → ∀ b, 25 ≤ b → rl_bit (Iw (j + 2) c) b = false) : ∀ (s w c : Nat) (I : Nat → Nat → Int32), c + s = jm * 14 → s < w → (∀ r, r ≠ j + 1 → r ≠ j + 4 → I r = Iw r) → (∀ k, k ≠ 4 → I (j + 1) k = Iw (j + 1) k) → I (j + 1) 4 = nI (rl_list (Iw (j + 2)) c).length → (∀ k, k < 14 → I (j + 4) k = nI ((rl_list (Iw (j + 2)) c).filter (fun q => q % 1000 / 50 = k)).length) → pu_ok (f_X2_sum_L2 fu (j + 1) (f_X2_sum_B52 fu (j + 1)) w (nI c) (K, I, R, N)) (fun q => ∃ I', q = (nI (rl_list (Iw (j + 2)) (jm * 14)).length, (K, I', R, N)) ∧ (∀ r, r ≠ j + 1 → r ≠ j + 4 → I' r = Iw r) ∧ (∀ k, k ≠ 4 → I' (j + 1) k = Iw (j + 1) k) ∧ I' (j + 1) 4 = nI (rl_list (Iw (j + 2)) (jm * 14)).length ∧ ∀ k, k < 14 → I' (j + 4) k = nI ((rl_list (Iw (j + 2)) (jm * 14)).filter (fun q => q % 1000 / 50 = k)).length) := by
  obtain ⟨f1, f2, f3, f4, f5, f6, f7⟩ := id hF
  have e14 : nI jm * 14 = nI (jm * 14) := by rw [show (14 : Int32) = nI 14 from rfl, pk_mul]
  intro s
  induction s with
  | zero =>
    intro w c I q1 q2 a1 a2 a3 a4
    obtain ⟨w, rfl⟩ : ∃ w', w = w' + 1 := ⟨w - 1, by omega⟩
    have : c = jm * 14 := by omega
    subst this
    simp only [f_X2_sum_L2, f_X2_sum_B52, pu_gi f1, a2 2 (by decide), h2, e14, Option.bind_some]
    rw [if_pos (Int32.le_refl _)]
    exact pu_some ⟨I, by rw [a3], a1, a2, a3, a4⟩
  | succ s ih =>
    intro w c I q1 q2 a1 a2 a3 a4
    obtain ⟨w, rfl⟩ : ∃ w', w = w' + 1 := ⟨w - 1, by omega⟩
    have hc : c < jm * 14 := by omega
    have hk : c % 14 < 14 := Nat.mod_lt _ (by decide)
    have hmk : I (j + 1 + 1) c = Iw (j + 2) c := by rw [show j + 1 + 1 = j + 2 from rfl, a1 _ (by omega) (by omega)]
    have hrm : ho_rm (nI c) 14 = some (nI (c % 14)) := by
      unfold ho_rm
      rw [if_neg (by decide), show (14 : Int32) = nI 14 from rfl, pk_rem (by omega) (by decide) (by decide)]
    have hstep : rl_list (Iw (j + 2)) (c + 1) = rl_list (Iw (j + 2)) c ++ rl_cell (Iw (j + 2)) c := rfl
    have hcl : ((List.range 25).filter (rl_bit (Iw (j + 2) c))).length = (rl_cell (Iw (j + 2)) c).length := by
      unfold rl_cell
      rw [List.length_map]
    simp only [f_X2_sum_L2, pu_gi f1, a2 2 (by decide), h2, e14, Option.bind_some, pu_gr f1 f2, pu_li f5 (show c < 1680 by omega) (by decide), hmk, bc_25 (hb c hc), hrm, pu_gr f1 f4, ho_id, nI_1]
    rw [if_neg (nI_ge hc (by omega))]
    simp only [pu_li f7 hk (by decide), pu_si f7 hk (by decide), Option.bind_some, pu_gi f1, pu_pi f1, pu_set_row _ _ _ _ (show j + 1 ≠ j + 1 + 3 by omega), a3, nI_add, hcl]
    refine ih w (c + 1) _ (by omega) (by omega) (fun r w1 w2 => by rw [pu_set_row _ _ _ _ w1, pu_set_row _ _ _ _ (by omega)]; exact a1 r w1 w2) (fun k hk' => by rw [pu_set_off _ _ _ _ hk', pu_set_row _ _ _ _ (by omega)]; exact a2 k hk') ?_ (fun k hk' => ?_)
    · rw [pu_set_at, hstep, List.length_append]
    · rw [pu_set_row _ _ _ _ (by omega), pu_set, if_pos (show j + 4 = j + 1 + 3 from rfl), show j + 1 + 3 = j + 4 from rfl, hstep, List.filter_append, List.length_append]
      by_cases hkc : k = c % 14
      · rw [if_pos hkc, a4 _ hk, hkc]
        have : (rl_cell (Iw (j + 2)) c).filter (fun q => q % 1000 / 50 = c % 14) = rl_cell (Iw (j + 2)) c := List.filter_eq_self.mpr (fun q hq => by
          unfold rl_cell at hq
          obtain ⟨b, hb', rfl⟩ := List.mem_map.mp hq
          exact decide_eq_true (rl_code_k (List.mem_range.mp (List.mem_filter.mp hb').1)))
        rw [this, nI_add]
      · rw [if_neg hkc, a4 k hk']
        have : (rl_cell (Iw (j + 2)) c).filter (fun q => q % 1000 / 50 = k) = [] := List.filter_eq_nil_iff.mpr (fun q hq => by
          unfold rl_cell at hq
          obtain ⟨b, hb', rfl⟩ := List.mem_map.mp hq
          rw [rl_code_k (List.mem_range.mp (List.mem_filter.mp hb').1)]
          simp only [decide_eq_true_eq]
          omega)
        rw [this]
        rfl
end JX
