/-! the class judges: its questions -/
def xj (K : Nat → Nat × Nat) (I : Nat → Nat → Int32) (R : Nat → Nat → Option Nat) (j n jm m : Nat) (rb : Int32) (ky : Int) (c1 c2 : Nat) (X Y : Nat → Option nt_T) : Prop := (K j = (3 + 3, 0) ∧ R j 0 = some (j + 1) ∧ sp_F K R (j + 1)) ∧ (R j 1 = some c1 ∧ sp_C K R c1 ∧ ch_at I c1 n X ∧ j + 4 < c1) ∧ (R j 2 = some c2 ∧ sp_C K R c2 ∧ ch_at I c2 n Y ∧ j + 4 < c2) ∧ (I j 3 = nI m ∧ I j 4 = nI n ∧ I j 5 = rb) ∧ (I j 6 = nI (nt_ll ky) ∧ I j 7 = iI (nt_ls ky)) ∧ (I (j + 1) 2 = nI jm ∧ m < jm ∧ jm ≤ 120) ∧ (2 ≤ n ∧ n ≤ 5) ∧ (∀ v, v < n → ∀ q, X v = some q → nt_ok q) ∧ (∀ v, v < n → ∀ q, Y v = some q → nt_ok q) ∧ (-7 ≤ ky ∧ ky ≤ 7)
theorem xj.keep {K : Nat → Nat × Nat} {I I' : Nat → Nat → Int32} {R : Nat → Nat → Option Nat} {j n jm m : Nat} {rb : Int32} {ky : Int} {c1 c2 : Nat} {X Y : Nat → Option nt_T} (h : xj K I R j n jm m rb ky c1 c2 X Y) (hk : ∀ r, r ≠ j + 2 → I' r = I r) : xj K I' R j n jm m rb ky c1 c2 X Y := by
  obtain ⟨h1, ⟨h2, h3, h4, h5⟩, ⟨h6, h7, h8, h9⟩, h10, h11, h12, h13⟩ := h
  refine ⟨h1, ⟨h2, h3, h4.keep (hk _ (by omega)) (hk _ (by omega)) (hk _ (by omega)) (hk _ (by omega)), h5⟩, ⟨h6, h7, h8.keep (hk _ (by omega)) (hk _ (by omega)) (hk _ (by omega)) (hk _ (by omega)), h9⟩, ?_, ?_, ?_, h13⟩
  · rw [hk j (by omega)]
    exact h10
  · rw [hk j (by omega)]
    exact h11
  · rw [hk (j + 1) (by omega)]
    exact h12
def xS (S0 : Nat → Nat → Prop) (n m : Nat) (rb : Int32) (Q : Nat → Nat → Nat → Bool) (Cv : Nat → Nat → Nat → Prop) : Nat → Nat → Prop := fun c b => S0 c b ∨ (c / 14 = m ∧ (b / 5 < n ∧ b % 5 < n) ∧ bt rb (c % 14) = true ∧ Cv (c % 14) (b / 5) (b % 5) ∧ Q (c % 14) (b / 5) (b % 5) = true)
def xz (K : Nat → Nat × Nat) (R : Nat → Nat → Option Nat) (N : Nat) (I0 : Nat → Nat → Int32) (j n jm : Nat) (S0 : Nat → Nat → Prop) (m : Nat) (rb : Int32) (Q : Nat → Nat → Nat → Bool) (Cv : Nat → Nat → Nat → Prop) (z : hp_S) : Prop := ∃ I', z = (K, I', R, N) ∧ (∀ r, r ≠ j + 2 → I' r = I0 r) ∧ ∀ c, c < jm * 14 → ∀ b, rl_bit (I' (j + 2) c) b = true ↔ xS S0 n m rb Q Cv c b
section XJ
variable {K : Nat → Nat × Nat} {I I0 : Nat → Nat → Int32} {R : Nat → Nat → Option Nat} {N fu j n jm m : Nat} {rb : Int32} {ky : Int} {c1 c2 : Nat} {X Y : Nat → Option nt_T} {S0 : Nat → Nat → Prop} {Q : Nat → Nat → Nat → Bool} {Cv Cv' : Nat → Nat → Nat → Prop} {z : hp_S}
theorem xz_free (h : xz K R N I0 j n jm S0 m rb Q Cv z) (hf : ∀ k a b, k < 14 → a < n → b < n → Q k a b = true → (Cv k a b ↔ Cv' k a b)) : xz K R N I0 j n jm S0 m rb Q Cv' z := by
  obtain ⟨I', h1, h2, h3⟩ := h
  refine ⟨I', h1, h2, fun c hc b => (h3 c hc b).trans ?_⟩
  unfold xS
  refine ⟨fun q => q.imp id (fun ⟨q1, q2, q3, q4, q5⟩ => ⟨q1, q2, q3, (hf _ _ _ (Nat.mod_lt _ (by decide)) q2.1 q2.2 q5).mp q4, q5⟩), fun q => q.imp id (fun ⟨q1, q2, q3, q4, q5⟩ => ⟨q1, q2, q3, (hf _ _ _ (Nat.mod_lt _ (by decide)) q2.1 q2.2 q5).mpr q4, q5⟩)⟩
theorem xj_ix (m k : Nat) : (nI m * 14) + nI k = nI (m * 14 + k) := by rw [show (14 : Int32) = nI 14 from rfl, pk_mul, nI_add]
theorem xj_bx (a b : Nat) : (nI a * 5) + nI b = nI (a * 5 + b) := by rw [show (5 : Int32) = nI 5 from rfl, pk_mul, nI_add]
theorem xb (h : xj K I0 R j n jm m rb ky c1 c2 X Y) (hz : xz K R N I0 j n jm S0 m rb Q Cv z) {k a b : Nat} (hk : k < 14) (ha : a < n) (hb : b < n) {v : Bool} (hv : v = Q k a b) : pu_ok (f_X3_between fu j (nI k) (nI a) (nI b) (bI v) z) (xz K R N I0 j n jm S0 m rb Q (fun k' a' b' => Cv k' a' b' ∨ (k' = k ∧ a' = a ∧ b' = b))) := by
  obtain ⟨I1, rfl, z1, z2⟩ := hz
  obtain ⟨⟨h1, h2, h3⟩, -, -, ⟨h4, h5, h6⟩, -, ⟨h7, h8, h9⟩, ⟨h10, h11⟩, -⟩ := h.keep z1
  simp only [f_X3_between, f_X3_between_B31, bI_ite]
  have hno : (v = false ∨ bt rb k = false) → xz K R N I0 j n jm S0 m rb Q (fun k' a' b' => Cv k' a' b' ∨ (k' = k ∧ a' = a ∧ b' = b)) (K, I1, R, N) := by
    intro hq
    refine ⟨I1, rfl, z1, fun c hc b' => (z2 c hc b').trans ?_⟩
    unfold xS
    refine ⟨fun q => q.imp id (fun ⟨q1, q2, q3, q4, q5⟩ => ⟨q1, q2, q3, Or.inl q4, q5⟩), fun q => q.imp id (fun ⟨q1, q2, q3, q4, q5⟩ => ⟨q1, q2, q3, ?_, q5⟩)⟩
    rcases q4 with q4 | ⟨e1, e2, e3⟩
    · exact q4
    · rw [e1, e2, e3, ← hv] at q5
      rw [e1] at q3
      rcases hq with hq | hq
      · rw [hq] at q5
        exact absurd q5 (by decide)
      · rw [hq] at q3
        exact absurd q3 (by decide)
  cases hvv : v with
  | false =>
    rw [if_neg (by decide)]
    exact pu_some (hno (Or.inl hvv))
  | true =>
    rw [if_pos rfl]
    simp only [pu_gi h1, h6, Option.bind_some, b_get rb (show k < 32 by omega)]
    cases hbt : bt rb k with
    | false =>
      rw [if_neg (by decide)]
      exact pu_some (hno (Or.inr hbt))
    | true =>
      rw [if_pos (by decide)]
      have hcl : m * 14 + k < 1680 := by omega
      have w1 : ¬ nI (m * 14 + k) < 0 := nI_pos (by omega)
      have w2 : ¬ nI 1680 ≤ nI (m * 14 + k) := nI_ge hcl (by decide)
      simp only [pu_gr h1 h2, pu_gi h1, h4, pu_is h3.1, Option.bind_some, f_X2_mark, f_X2_mark_B41, ho_id, pu_gr h3.1 h3.2.1, pu_ln h3.2.2.2.2.1, xj_ix, xj_bx, if_neg w1, if_neg w2, pu_li h3.2.2.2.2.1 hcl (by decide), pu_si h3.2.2.2.2.1 hcl (by decide)]
      refine pu_some ⟨_, rfl, fun r hr => by rw [pu_set_row _ _ _ _ (by omega)]; exact z1 r hr, fun c hc b' => ?_⟩
      rw [pu_set]
      rw [if_pos (show j + 2 = j + 1 + 1 by omega)]
      by_cases hcc : c = m * 14 + k
      · subst hcc
        rw [if_pos rfl]
        have hbit : rl_bit (I1 (j + 1 + 1) (m * 14 + k) ||| (1 <<< (nI (a * 5 + b) &&& 31))) b' = (rl_bit (I1 (j + 1 + 1) (m * 14 + k)) b' || decide (b' = a * 5 + b)) := by
          show bt _ b' = (bt _ b' || _)
          rw [b_or]
          congr 1
          rcases Nat.lt_or_ge b' 32 with q | q
          · rw [b_shl (a * 5 + b) (by omega) 1 q]
            by_cases hle : a * 5 + b ≤ b'
            · rw [decide_eq_true hle, Bool.true_and, b_one _ (by omega)]
              by_cases he : b' = a * 5 + b
              · rw [decide_eq_true he, decide_eq_true (by omega)]
              · rw [decide_eq_false he, decide_eq_false (by omega)]
            · rw [decide_eq_false hle, Bool.false_and, decide_eq_false (by omega)]
          · rw [b_big q, decide_eq_false (by omega)]
        rw [hbit, Bool.or_eq_true, show j + 1 + 1 = j + 2 from rfl, z2 _ hc b', decide_eq_true_eq]
        unfold xS
        rw [show (m * 14 + k) / 14 = m by omega, show (m * 14 + k) % 14 = k by omega]
        refine ⟨fun q => ?_, fun q => ?_⟩
        · rcases q with (q | ⟨q1, q2, q3, q4, q5⟩) | q
          · exact Or.inl q
          · exact Or.inr ⟨q1, q2, q3, Or.inl q4, q5⟩
          · refine Or.inr ⟨rfl, by omega, hbt, Or.inr ⟨rfl, by omega, by omega⟩, ?_⟩
            rw [show b' / 5 = a by omega, show b' % 5 = b by omega, ← hv]
            exact hvv
        · rcases q with q | ⟨q1, q2, q3, q4 | ⟨-, e2, e3⟩, q5⟩
          · exact Or.inl (Or.inl q)
          · exact Or.inl (Or.inr ⟨q1, q2, q3, q4, q5⟩)
          · exact Or.inr (by omega)
      · rw [if_neg hcc, show j + 1 + 1 = j + 2 from rfl, z2 c hc b']
        unfold xS
        refine ⟨fun q => q.imp id (fun ⟨q1, q2, q3, q4, q5⟩ => ⟨q1, q2, q3, Or.inl q4, q5⟩), fun q => q.imp id (fun ⟨q1, q2, q3, q4, q5⟩ => ⟨q1, q2, q3, ?_, q5⟩)⟩
        rcases q4 with q4 | ⟨e1, e2, e3⟩
        · exact q4
        · exfalso
          omega
theorem xa (h : xj K I0 R j n jm m rb ky c1 c2 X Y) (hz : xz K R N I0 j n jm S0 m rb Q Cv z) {k a : Nat} (hk : k < 14) (ha : a < n) {v : Bool} (hv : v = Q k a a) : pu_ok (f_X3_alone fu j (nI k) (nI a) (bI v) z) (xz K R N I0 j n jm S0 m rb Q (fun k' a' b' => Cv k' a' b' ∨ (k' = k ∧ a' = a ∧ b' = a))) := by
  have key := xb (fu := fu) h hz hk ha ha hv
  obtain ⟨I1, rfl, z1, z2⟩ := hz
  simp only [f_X3_alone, pu_is h.1.1, Option.bind_some]
  obtain ⟨z', e, hz'⟩ := key
  rw [e]
  exact pu_some hz'
/-! its questions -/
theorem xq_goes (h : xj K I R j n jm m rb ky c1 c2 X Y) {a : Nat} (ha : a < n) : f_X3_goes fu j (nI a) (K, I, R, N) = some (bI (nt_go (X a) (Y a)), (K, I, R, N)) := by
  obtain ⟨⟨h1, h2, h3⟩, ⟨x1, x2, x3, -⟩, ⟨y1, y2, y3, -⟩, -, -, -, ⟨-, h5⟩, -⟩ := h
  simp only [f_X3_goes, f_X3_goes_B28, f_X3_goes_B29, pu_gr h1 x1, pu_gr h1 y1, pu_gr x2.1 x2.2.1, pu_gr y2.1 y2.2.1, cx_s x2 (show a < 5 by omega), cx_s y2 (show a < 5 by omega), Option.bind_some, cx_so x3 ha, cx_so y3 ha, bI_ite, pu_vn0, pu_vn1, if_true]
  cases X a <;> cases Y a <;> rfl
theorem xq_moves (h : xj K I R j n jm m rb ky c1 c2 X Y) {a : Nat} (ha : a < n) : f_X3_moves fu j (nI a) (K, I, R, N) = some (bI (nt_mv (X a) (Y a)), (K, I, R, N)) := by
  have hg := xq_goes (fu := fu) (N := N) h ha
  obtain ⟨⟨h1, h2, h3⟩, ⟨x1, x2, x3, -⟩, ⟨y1, y2, y3, -⟩, -, -, -, ⟨-, h5⟩, ox, oy, -⟩ := h
  simp only [f_X3_moves, f_X3_moves_B50, f_X3_moves_B54, f_X3_moves_B55, pu_is h1, hg, bI_ite, pu_gr h1 x1, pu_gr h1 y1, pu_gr x2.1 x2.2.2.1, pu_gr y2.1 y2.2.2.1, pu_gr x2.1 x2.2.2.2.1, pu_gr y2.1 y2.2.2.2.1, cx_k x2 (show a < 5 by omega), cx_k y2 (show a < 5 by omega), cx_x x2 (show a < 5 by omega), cx_x y2 (show a < 5 by omega), Option.bind_some, pu_vn0, pu_vn1, if_true]
  cases hq : X a with
  | none => rfl
  | some q => cases hr : Y a with
    | none => rfl
    | some r =>
      obtain ⟨q1, q2, q3, q4⟩ := (x3 a ha).2 q hq
      obtain ⟨r1, r2, r3, r4⟩ := (y3 a ha).2 r hr
      have b1 := (ox a ha q hq).1
      have b2 := (oy a ha r hr).1
      have b3 := (ox a ha q hq).2
      have b4 := (oy a ha r hr).2
      simp only [nt_go, if_true, q2, q3, r2, r3, nt_mv]
      by_cases c1 : q.1 = r.1
      · rw [if_pos (by rw [c1])]
        by_cases c2 : q.2 = r.2
        · rw [if_pos (by rw [c2])]
          simp [c1, c2, bI]
        · rw [if_neg (fun w => c2 ((iI_eq (by omega) (by omega) (by omega) (by omega)).mp w))]
          simp [c1, c2, bI]
      · rw [if_neg (fun w => c1 ((nI_eq (by omega) (by omega)).mp w))]
        simp [c1, bI]
def nt_of (l : Nat) (s : Int) : Option nt_T → Bool
  | some q => decide (q.1 % 7 = l ∧ q.2 = s)
  | none => false
theorem cx_l {c : Nat} (hC : sp_C K R c) (hX : ch_at I c n X) (h5 : n ≤ 5) {a : Nat} (ha : a < n) {q : nt_T} (hq : X a = some q) (oq : nt_ok q) : f_X0_letter fu c (nI a) (K, I, R, N) = some (nI (q.1 % 7), (K, I, R, N)) := by
  obtain ⟨q1, q2, q3, q4⟩ := (hX a ha).2 q hq
  simp only [f_X0_letter, pu_gr hC.1 hC.2.2.1, Option.bind_some, cx_k hC (show a < 5 by omega), q2, ht_rm oq.1]
theorem cx_of {c : Nat} (hC : sp_C K R c) (hX : ch_at I c n X) (h5 : n ≤ 5) (oX : ∀ v, v < n → ∀ q, X v = some q → nt_ok q) {a l : Nat} {s : Int} (ha : a < n) (hl : l < 7) (hs1 : -2 ≤ s) (hs2 : s ≤ 2) : f_X0_isNoteOf fu c (nI a) (nI l) (iI s) (K, I, R, N) = some (bI (nt_of l s (X a)), (K, I, R, N)) := by
  simp only [f_X0_isNoteOf, f_X0_isNoteOf_B32, f_X0_isNoteOf_B33, pu_gr hC.1 hC.2.1, pu_is hC.1, cx_s hC (show a < 5 by omega), Option.bind_some, cx_so hX ha, bI_ite, pu_vn0, pu_vn1, if_true]
  cases hq : X a with
  | none => rfl
  | some q =>
    obtain ⟨q1, q2, q3, q4⟩ := (hX a ha).2 q hq
    have oq := oX a ha q hq
    have b1 := oq.2
    have hl7 : q.1 % 7 < 7 := Nat.mod_lt _ (by decide)
    rw [if_pos (by rfl), cx_l hC hX h5 ha hq oq, Option.bind_some]
    simp only [nt_of, pu_gr hC.1 hC.2.2.2.1, cx_x hC (show a < 5 by omega), q3, Option.bind_some]
    by_cases d1 : q.1 % 7 = l
    · rw [if_pos (by rw [d1])]
      by_cases d2 : q.2 = s
      · rw [if_pos (by rw [d2]), decide_eq_true ⟨d1, d2⟩]
        rfl
      · rw [if_neg (fun w => d2 ((iI_eq (by omega) (by omega) (by omega) (by omega)).mp w)), decide_eq_false (fun w => d2 w.2)]
        rfl
    · rw [if_neg (fun w => d1 ((nI_eq (by omega) (by omega)).mp w)), decide_eq_false (fun w => d1 w.1)]
      rfl
theorem nt_of_ld (o : Option nt_T) : nt_of (nt_ll ky) (nt_ls ky) o = nt_ld ky o := by cases o <;> rfl
theorem xq_lead1 (h : xj K I R j n jm m rb ky c1 c2 X Y) {a : Nat} (ha : a < n) : f_X3_leads fu j c1 (nI a) (K, I, R, N) = some (bI (nt_ld ky (X a)), (K, I, R, N)) := by
  obtain ⟨⟨h1, h2, h3⟩, ⟨x1, x2, x3, -⟩, -, -, ⟨l1, l2⟩, -, ⟨-, h5⟩, ox, oy, hk1, hk2⟩ := h
  obtain ⟨-, -, t3, t4, t5⟩ := ld_tab hk1 hk2
  simp only [f_X3_leads, pu_gi h1, l1, l2, pu_is x2.1, Option.bind_some, cx_of x2 x3 h5 ox ha t3 (show -2 ≤ nt_ls ky by omega) (show nt_ls ky ≤ 2 by omega), bI_vn, if_true, nt_of_ld]
theorem xq_lead2 (h : xj K I R j n jm m rb ky c1 c2 X Y) {a : Nat} (ha : a < n) : f_X3_leads fu j c2 (nI a) (K, I, R, N) = some (bI (nt_ld ky (Y a)), (K, I, R, N)) := by
  obtain ⟨⟨h1, h2, h3⟩, -, ⟨y1, y2, y3, -⟩, -, ⟨l1, l2⟩, -, ⟨-, h5⟩, ox, oy, hk1, hk2⟩ := h
  obtain ⟨-, -, t3, t4, t5⟩ := ld_tab hk1 hk2
  simp only [f_X3_leads, pu_gi h1, l1, l2, pu_is y2.1, Option.bind_some, cx_of y2 y3 h5 oy ha t3 (show -2 ≤ nt_ls ky by omega) (show nt_ls ky ≤ 2 by omega), bI_vn, if_true, nt_of_ld]
end XJ
