/-! the class judges: repeats -/
section JG
variable {K : Nat → Nat × Nat} {I I' I0 : Nat → Nat → Int32} {R R' R0 : Nat → Nat → Option Nat} {N fu x n jm m : Nat} {rb : Int32} {ky : Int} {T : Nat → Nat} {S S' : Nat → Nat → Prop} {c1 c2 t : Nat} {d : rl_D}
theorem xg_first (hT : sp_T K R t) (h1 : I t 1 = nI jm) (hTt : ∀ i, i < jm → I (t + 1) i = nI (T i) ∧ T i < 1000) (hjm : jm ≤ 120) {u : Nat} (hu : u < 1000) : ∀ (s w i : Nat), i + s = jm → s < w → f_X5_firstFrom_L2 fu t (nI u) (f_X5_firstFrom_B28 fu t (nI u)) w (nI i) (K, I, R, N) = some (if fi_n T u s i < jm then nI (fi_n T u s i) else -1, (K, I, R, N)) := by
  intro s
  induction s with
  | zero =>
    intro w i q1 q2
    obtain ⟨w, rfl⟩ : ∃ w', w = w' + 1 := ⟨w - 1, by omega⟩
    simp only [f_X5_firstFrom_L2, f_X5_firstFrom_B28, pu_gi hT.1, h1, Option.bind_some]
    rw [if_pos (nI_le (show jm ≤ i by omega) (by omega)), fi_n, if_neg (by omega)]
  | succ s ih =>
    intro w i q1 q2
    obtain ⟨w, rfl⟩ : ∃ w', w = w' + 1 := ⟨w - 1, by omega⟩
    have hi : i < jm := by omega
    simp only [f_X5_firstFrom_L2, pu_gi hT.1, h1, Option.bind_some, pu_gr hT.1 hT.2.1, pu_li hT.2.2.2.1 (show i < 120 by omega) (by decide), (hTt i hi).1, ho_id, nI_1]
    rw [if_neg (nI_ge hi (by omega))]
    have ht := (hTt i hi).2
    unfold fi_n
    by_cases hc : T i < u
    · rw [if_pos (nI_lt hc (by omega)), if_pos hc]
      exact ih w (i + 1) (by omega) (by omega)
    · rw [if_neg (nI_nlt (by omega) (by omega)), if_neg hc, if_pos hi]
theorem xg_last (hT : sp_T K R t) (hTt : ∀ i, i < jm → I (t + 1) i = nI (T i) ∧ T i < 1000) (hjm : jm ≤ 120) {u : Nat} (hu : u < 1000) : ∀ (i w : Nat), i ≤ jm → i < w → f_X5_lastBefore_L7 fu t (nI u) (f_X5_lastBefore_B29 fu t (nI u)) w (nI i - 1) (K, I, R, N) = some (nI (la_n T u i) - 1, (K, I, R, N)) := by
  intro i
  induction i with
  | zero =>
    intro w q1 q2
    obtain ⟨w, rfl⟩ : ∃ w', w = w' + 1 := ⟨w - 1, by omega⟩
    simp only [f_X5_lastBefore_L7, f_X5_lastBefore_B29]
    rw [if_pos (show nI 0 - 1 < 0 by decide)]
    rfl
  | succ i ih =>
    intro w q1 q2
    obtain ⟨w, rfl⟩ : ∃ w', w = w' + 1 := ⟨w - 1, by omega⟩
    have hi : i < jm := by omega
    simp only [f_X5_lastBefore_L7, nI_pred, pu_gr hT.1 hT.2.1, pu_li hT.2.2.2.1 (show i < 120 by omega) (by decide), (hTt i hi).1, Option.bind_some, ho_id]
    rw [if_neg (Int32.not_lt.mpr (nI_pos' (show i < 2 ^ 31 by omega)))]
    have ht := (hTt i hi).2
    unfold la_n
    by_cases hc : u ≤ T i
    · rw [if_pos (nI_le hc (by omega)), if_pos hc, show nI i + (-1) = nI i - 1 from (Int32.sub_eq_add_neg _ _).symm]
      exact ih w (by omega) (by omega)
    · rw [if_neg (nI_ge (by omega) (by omega)), if_neg hc, nI_pred]
theorem xgo (hX : sp_X K R0 x n) (hX1 : rl_X1 I0 x n d) (hd : rl_ok n d) (ht1 : I0 (sp_t x n) 1 = nI jm) (hT : ∀ i, i < jm → I0 (sp_t x n + 1) i = nI (T i) ∧ T i < 1000) (hjm : jm ≤ 120) (hk1 : -7 ≤ ky) (hk2 : ky ≤ 7) (hfu : 130 ≤ fu) {u v : Nat} (hu : u < 1000) (hv : v < 1000) (h : jw K I0 R0 (sp_t x n + 9) n jm rb ky T S c1 c2 I R) : pu_ok (f_X3_goBack fu (sp_t x n + 9) (x + 1) (sp_t x n) (nI u) (nI v) (K, I, R, N)) (fun z => ∃ I', z = (K, I', R, N) ∧ jw K I0 R0 (sp_t x n + 9) n jm rb ky T (fun c b => S c b ∨ (fi_n T u jm 0 < jm ∧ fi_n T u jm 0 < la_n T v jm ∧ c / 14 = fi_n T u jm 0 ∧ (b / 5 < n ∧ b % 5 < n) ∧ bt rb (c % 14) = true ∧ nt_pr n ky (c % 14) (b / 5) (b % 5) (nt_at d (T (la_n T v jm - 1))) (nt_at d (T (fi_n T u jm 0))) = true)) c1 c2 I' R) := by
  have ht : sp_t x n = x + 2 + 4 * n := rfl
  have h5 := hX.n5
  have hXR := h.sx hX
  have e1 : I (sp_t x n) 1 = nI jm := by rw [h.2.2.2.1 _ (by omega)]; exact ht1
  have e2 : ∀ i, i < jm → I (sp_t x n + 1) i = nI (T i) ∧ T i < 1000 := fun i hi => ⟨by rw [h.2.2.2.1 _ (by omega)]; exact (hT i hi).1, (hT i hi).2⟩
  have hf := xg_first (fu := fu) (N := N) (R := R) (t := sp_t x n) hXR.t.2 e1 e2 hjm hu jm fu 0 (by omega) (by omega)
  have hl := xg_last (fu := fu) (N := N) (R := R) (t := sp_t x n) hXR.t.2 e2 hjm hv jm fu (Nat.le_refl _) (by omega)
  rw [nI_0] at hf
  have hFle := fi_le T u jm 0
  have hLle := la_le T v jm
  simp only [f_X3_goBack, f_X3_goBack_B28, f_X5_firstFrom, f_X5_lastBefore, pu_is hXR.t.2.1, Option.bind_some, hf, pu_gi hXR.t.2.1, e1, ho_id, hl]
  generalize fi_n T u jm 0 = F at *
  generalize la_n T v jm = L at *
  have hno : ¬ (F < jm ∧ F < L) → pu_ok (some ((K, I, R, N) : hp_S)) (fun z => ∃ I', z = (K, I', R, N) ∧ jw K I0 R0 (sp_t x n + 9) n jm rb ky T (fun c b => S c b ∨ (F < jm ∧ F < L ∧ c / 14 = F ∧ (b / 5 < n ∧ b % 5 < n) ∧ bt rb (c % 14) = true ∧ nt_pr n ky (c % 14) (b / 5) (b % 5) (nt_at d (T (L - 1))) (nt_at d (T F)) = true)) c1 c2 I' R) := fun hq => pu_some ⟨I, rfl, h.mark (fun _ _ => rfl) (fun c hc b => (h.2.2.2.2.2.2.2.2 c hc b).trans ⟨Or.inl, fun w => w.elim id (fun w => absurd ⟨w.1, w.2.1⟩ hq)⟩)⟩
  by_cases hF : F < jm
  · simp only [if_pos hF]
    rw [if_neg (nI_m1 (show F < 120 by omega))]
    have hcmp : (nI F ≤ nI L - 1) ↔ F < L := by
      rw [iI_nat, show (1 : Int32) = iI 1 from rfl, iI_nat, iI_sub, iI_le (by omega) (by omega) (by omega) (by omega)]
      omega
    by_cases hL : F < L
    · rw [if_pos (hcmp.mpr hL)]
      obtain ⟨l, rfl⟩ : ∃ l, L = l + 1 := ⟨L - 1, by omega⟩
      have kj := hXR.j.2.1
      obtain ⟨-, -, -, -, j4, j5, -⟩ := hXR.j
      have hc12 := h.1
      have hC1 : sp_C K R c1 := by
        rcases hc12 with ⟨e, -⟩ | ⟨e, -⟩
        · rw [← e] at j4
          exact j4
        · rw [← e] at j5
          exact j5
      have hC2 : sp_C K R c2 := by
        rcases hc12 with ⟨-, e⟩ | ⟨-, e⟩
        · rw [← e] at j5
          exact j5
        · rw [← e] at j4
          exact j4
      have hX1I : rl_X1 I x n d := hX1.keep (fun b _ _ => h.2.2.2.1 b (by omega))
      simp only [pu_gr kj h.2.1.1, pu_gr hXR.t.2.1 hXR.t.2.2.1, nI_pred, pu_li hXR.t.2.2.2.2.1 (show l < 120 by omega) (by decide), (e2 l (by omega)).1, pu_is hC1.1, Option.bind_some]
      refine pu_bind (pu_mono (ld_load hXR hX1I hd hC1 (by omega) (hT l (by omega)).2 (by omega)) ?_)
      rintro _ ⟨J, rfl, l1, l2⟩
      have e3 : J (sp_t x n + 1) F = nI (T F) := by rw [l1 _ (by omega)]; exact (e2 F hF).1
      simp only [pu_gr kj h.2.1.2, pu_gr hXR.t.2.1 hXR.t.2.2.1, pu_li hXR.t.2.2.2.2.1 (show F < 120 by omega) (by decide), e3, pu_is hC2.1, Option.bind_some]
      have hX1J : rl_X1 J x n d := hX1I.keep (fun b _ _ => l1 b (by omega))
      refine pu_bind (pu_mono (ld_load hXR hX1J hd hC2 (by omega) (hT F hF).2 (by omega)) ?_)
      rintro _ ⟨J', rfl, l3, l4⟩
      simp only [pu_pi kj, pu_is kj, Option.bind_some]
      generalize hJ1 : hp_set J' (sp_t x n + 9) 3 (nI F) = J1
      have k1 : ∀ r, r ≠ sp_t x n + 9 → J1 r = J' r := fun r hr => by rw [← hJ1, pu_set_row _ _ _ _ hr]
      have k2 : ∀ k, k ≠ 3 → J1 (sp_t x n + 9) k = J' (sp_t x n + 9) k := fun k hk => by rw [← hJ1, pu_set_off _ _ _ _ hk]
      have k3 : J1 (sp_t x n + 9) 3 = nI F := by rw [← hJ1, pu_set_at]
      have hw1 := h.chd (I' := J1) (fun r q1 q2 => by rw [k1 r q1, l3 r (by omega)]; exact l1 r (by omega)) (fun k hk => by rw [k2 k hk, l3 _ (by omega), l1 _ (by omega)])
      have hcX : ch_at J1 c1 n (nt_at d (T l)) := l2.keep (by rw [k1 _ (by omega)]; exact l3 _ (by omega)) (by rw [k1 _ (by omega)]; exact l3 _ (by omega)) (by rw [k1 _ (by omega)]; exact l3 _ (by omega)) (by rw [k1 _ (by omega)]; exact l3 _ (by omega))
      have hcY : ch_at J1 c2 n (nt_at d (T F)) := l4.keep (k1 _ (by omega)) (k1 _ (by omega)) (k1 _ (by omega)) (k1 _ (by omega))
      have hxj := hw1.jj hX hjm hk1 hk2 k3 hF hcX hcY (fun v hv q hq => (nt_atok hd hv hq).1) (fun v hv q hq => (nt_atok hd hv hq).1)
      refine pu_bind (pu_mono (xpair hxj (by omega) hw1.2.2.2.2.2.2.2.2) ?_)
      rintro _ ⟨J3, rfl, n1, n2⟩
      refine pu_some ⟨J3, rfl, hw1.mark n1 (fun c hc b => (n2 c hc b).trans ?_)⟩
      unfold xS
      rw [Nat.add_sub_cancel]
      exact ⟨fun q => q.imp id (fun ⟨q1, q2, q3, _, q5⟩ => ⟨hF, hL, q1, q2, q3, q5⟩), fun q => q.imp id (fun ⟨_, _, q1, q2, q3, q5⟩ => ⟨q1, q2, q3, trivial, q5⟩)⟩
    · rw [if_neg (fun w => hL (hcmp.mp w))]
      exact hno (fun w => hL w.2)
  · simp only [if_neg hF]
    rw [if_pos trivial]
    exact hno (fun w => hF w.1)
end JG
