/-! the reference judges: all its loops -/
theorem nt_pr_ab {n : Nat} {ky : Int} {k a b : Nat} {X Y : Nat → Option nt_T} (hk : k < 14) (h : nt_pr n ky k a b X Y = true) : nt_ab n k a b = true := by
  rcases kc_14 hk with rfl | rfl | rfl | rfl | rfl | rfl | rfl | rfl | rfl | rfl | rfl | rfl | rfl | rfl <;> first | exact (Bool.and_eq_true_iff.mp h).1 | exact absurd h Bool.false_ne_true
theorem nt_mo_ab {n : Nat} {ky : Int} {low high : Nat → Int32} {k a b : Nat} {X Y : Nat → Option nt_T} (hk : k < 14) (h : nt_mo ky low high k a b X Y = true) : nt_ab n k a b = true := by
  rcases kc_14 hk with rfl | rfl | rfl | rfl | rfl | rfl | rfl | rfl | rfl | rfl | rfl | rfl | rfl | rfl <;> first | exact (Bool.and_eq_true_iff.mp h).1 | exact absurd h Bool.false_ne_true
theorem jd_br_ab {n : Nat} {ky : Int} {low high : Nat → Int32} {X : Nat → Nat → Option nt_T} {T : Nat → Nat} {c rc : Nat} {rf rt : Nat → Nat} {m k a b : Nat} (hk : k < 14) (h : jd_br n ky low high X T c rc rf rt m k a b = true) : nt_ab n k a b = true := by
  unfold jd_br at h
  rcases Bool.or_eq_true_iff.mp h with h | h
  · exact nt_mo_ab hk h
  · rcases Bool.or_eq_true_iff.mp h with h | h
    · exact nt_pr_ab hk h
    · obtain ⟨i, -, h⟩ := jd_any_iff.mp h
      exact nt_pr_ab hk (Bool.and_eq_true_iff.mp h).2
theorem nt_ab_al {n k a b : Nat} (h2 : 2 ≤ n) (hk : k < 14) (h : nt_ab n k a b = true) : (nt_al k = true → a = b) ∧ (nt_al k = false → a ≠ b) := by
  rcases kc_14 hk with rfl | rfl | rfl | rfl | rfl | rfl | rfl | rfl | rfl | rfl | rfl | rfl | rfl | rfl <;> simp [nt_ab, nt_al] at h ⊢ <;> omega
def jcap (k : Nat) : Nat := [10, 10, 1, 10, 4, 4, 5, 5, 5, 10, 4, 20, 10, 4].getD k 0
def jcs : Nat → Nat
  | 0 => 0
  | c + 1 => jcs c + jcap (c % 14)
theorem jcs_mono : ∀ a b, a ≤ b → jcs a ≤ jcs b := by
  intro a b
  induction b with
  | zero => intro h; have : a = 0 := by omega
            rw [this]
            exact Nat.le_refl _
  | succ b ih =>
    intro h
    rcases Nat.lt_or_ge b a with q | q
    · have : a = b + 1 := by omega
      rw [this]
      exact Nat.le_refl _
    · have := ih q
      rw [jcs]
      omega
theorem jcs_all : jcs 1680 = 12240 := by decide +kernel
def jcq (n k b : Nat) : Bool := decide (b / 5 < n ∧ b % 5 < n) && nt_ab n k (b / 5) (b % 5)
theorem jcq_tab : ∀ n, n < 6 → ∀ k, k < 14 → (List.range 25).countP (jcq n k) ≤ jcap k := by decide +kernel
theorem jc_len {n : Nat} (h5 : n ≤ 5) {p : Nat → Bool} {c : Nat} (hp : ∀ b, p b = true → jcq n (c % 14) b = true) : (jc p c).length ≤ jcap (c % 14) := by
  unfold jc
  rw [List.length_map, ← List.countP_eq_length_filter]
  exact Nat.le_trans (List.countP_mono_left (fun x _ h => hp x h)) (jcq_tab n (by omega) _ (Nat.mod_lt _ (by decide)))
theorem ju_len (E : Bool) (s : List Nat × Nat) (S : List Nat) : (ju E s S).1.length ≤ s.1.length + S.length := by
  cases E <;> simp [ju]
theorem jf_len {n : Nat} (h5 : n ≤ 5) {E : Nat → Bool} {p : Nat → Nat → Bool} (hp : ∀ c b, p c b = true → jcq n (c % 14) b = true) : ∀ C, (jf E p C).1.length ≤ jcs C
  | 0 => Nat.le_refl _
  | C + 1 => by
    rw [jf, jcs]
    have a1 := ju_len (E C) (jf E p C) (jc (p C) C)
    have a2 := jf_len h5 (E := E) hp C
    have a3 := jc_len h5 (hp C)
    omega
section YJ2
variable {K : Nat → Nat × Nat} {I0 : Nat → Nat → Int32} {R : Nat → Nat → Option Nat} {N fu y n c : Nat} {X : Nat → Nat → Option nt_T} {T : Nat → Nat} {ky : Int} {low high : Nat → Int32} {rc : Nat} {rf rt : Nat → Nat} {tm : Nat} {P : Int32 × hp_S → Prop} {on : Nat → Bool}
theorem jb_e {br : Nat → Nat → Nat → Nat → Bool} {m k a b : Nat} (hk : k < 14) (ha : a < n) (hb : b < n) (h5 : n ≤ 5) (hon : on k = true) : jb n on br (14 * m + k) (5 * a + b) = br m k a b := by
  unfold jb
  rw [show (14 * m + k) / 14 = m by omega, show (14 * m + k) % 14 = k by omega, show (5 * a + b) / 5 = a by omega, show (5 * a + b) % 5 = b by omega, hon, decide_eq_true ⟨ha, hb⟩]
  rfl
theorem yj_b (h : yc K I0 R y n c X T ky low high rc rf rt) (hfu : 130 ≤ fu) {m k a : Nat} (hm : m < c) (hk : k < 14) (ha : a < n) (hon : on k = true) {E : Bool} {kk : Int32 → Int32 → Int32 → Int32 → hp_S → Option (Int32 × hp_S)} : ∀ (s w b : Nat) (J : Nat → Nat → Int32) (st : List Nat × Nat), b + s = n → s < w → ys I0 J y T tm st → st.1.length + s < 12300 →
    (∀ J', ys I0 J' y T tm (ju E st (jr (fun b => !nt_al k && jb n on (jd_br n ky low high X T c rc rf rt) (14 * m + k) (5 * a + b)) (fun b => rl_code (14 * m + k) (5 * a + b)) s b)) → pu_ok (kk (nI m) (nI k) (bI E) (nI a) (K, J', R, N)) P) → pu_ok (f_X7_judge_L80 fu y kk w (nI m) (nI k) (bI E) (nI a) (nI b) (K, J, R, N)) P := by
  have h5 := h.2.1.1
  have h2 := h.2.2.2.1
  intro s
  induction s with
  | zero =>
    intro w b J st h1 h3 hys hl hk
    obtain ⟨w, rfl⟩ : ∃ w', w = w' + 1 := ⟨w - 1, by omega⟩
    have h0 : J y 0 = nI n := by rw [hys.2.1 0 (by decide) (by decide)]; exact h.2.2.1
    simp only [f_X7_judge_L80, pu_gi h.1.k, h0, Option.bind_some]
    rw [if_pos (nI_le (show n ≤ b by omega) (by omega))]
    refine hk J ?_
    rw [jr, ju_nil]
    exact hys
  | succ s ih =>
    intro w b J st h1 h3 hys hl hkk
    obtain ⟨w, rfl⟩ : ∃ w', w = w' + 1 := ⟨w - 1, by omega⟩
    have hJ := h.keep hys.1 hys.2.1
    have hb : b < n := by omega
    have hv : ((!nt_al k && nt_ab n k a b) && jd_br n ky low high X T c rc rf rt m k a b) = (!nt_al k && jb n on (jd_br n ky low high X T c rc rf rt) (14 * m + k) (5 * a + b)) := by
      rw [jb_e hk ha hb h5 hon]
      cases hq : jd_br n ky low high X T c rc rf rt m k a b
      · simp
      · rw [jd_br_ab hk hq]
        simp
    refine yj_step h hys (by omega) (nI_ge hb (by omega)) (va := !nt_al k && nt_ab n k a b) (vb := jd_br n ky low high X T c rc rf rt m k a b) (cd := rl_code (14 * m + k) (5 * a + b)) (yb_ab hJ.1 hJ.2.2.1 h2 h5 hk ha hb) (fun hva => ?_) (fun hvv => ?_) (fun J' hys' => ?_)
    · obtain ⟨q1, q2⟩ := Bool.and_eq_true_iff.mp hva
      exact yi_all hJ hfu hk ha (Or.inl ⟨rfl, hb, by simpa using q1, q2⟩) hm
    · obtain ⟨q0, -⟩ := Bool.and_eq_true_iff.mp hvv
      obtain ⟨q1, q2⟩ := Bool.and_eq_true_iff.mp q0
      have := (nt_ab_al h2 hk q2).2 (by simpa using q1)
      rw [rl_code_e m k a b hk (by omega), if_neg this, nI_add, nI_1]
      rfl
    · rw [nI_1]
      rw [hv] at hys'
      refine ih w (b + 1) J' _ (by omega) (by omega) hys' ?_ (fun J'' hys'' => hkk J'' ?_)
      · have := ju_len E st (if (!nt_al k && jb n on (jd_br n ky low high X T c rc rf rt) (14 * m + k) (5 * a + b)) = true then [rl_code (14 * m + k) (5 * a + b)] else [])
        split at this
        · rename_i q
          rw [if_pos q]
          simp only [List.length_singleton] at this
          omega
        · rename_i q
          rw [if_neg q]
          simp only [List.length_nil] at this
          omega
      · rw [ju_app] at hys''
        exact hys''
theorem yj_bb (h : yc K I0 R y n c X T ky low high rc rf rt) (hfu : 130 ≤ fu) {m k a : Nat} (hm : m < c) (hk : k < 14) (ha : a < n) (hon : on k = true) {E : Bool} {kk : Int32 → Int32 → Int32 → Int32 → hp_S → Option (Int32 × hp_S)} {J : Nat → Nat → Int32} {st : List Nat × Nat} (hys : ys I0 J y T tm st) (hl : st.1.length + 6 < 12300) (hkk : ∀ J', ys I0 J' y T tm (ju E st (jg n (nt_al k) (jb n on (jd_br n ky low high X T c rc rf rt) (14 * m + k)) (rl_code (14 * m + k)) a)) → pu_ok (kk (nI m) (nI k) (bI E) (nI a) (K, J', R, N)) P) : pu_ok (f_X7_judge_L80 fu y kk fu (nI m) (nI k) (bI E) (nI a) (-1) (K, J, R, N)) P := by
  have h5 := h.2.1.1
  have h2 := h.2.2.2.1
  obtain ⟨w, hw⟩ : ∃ w', fu = w' + 1 := ⟨fu - 1, by omega⟩
  have hJ := h.keep hys.1 hys.2.1
  have hv : ((nt_al k && nt_ab n k a a) && jd_br n ky low high X T c rc rf rt m k a a) = (nt_al k && jb n on (jd_br n ky low high X T c rc rf rt) (14 * m + k) (5 * a + a)) := by
    rw [jb_e hk ha ha h5 hon]
    cases hq : jd_br n ky low high X T c rc rf rt m k a a
    · simp
    · rw [jd_br_ab hk hq]
      simp
  have key : pu_ok (f_X7_judge_L80 fu y kk (w + 1) (nI m) (nI k) (bI E) (nI a) (-1) (K, J, R, N)) P := by
    refine yj_step h hys (by omega) (va := nt_al k && nt_ab n k a a) (vb := jd_br n ky low high X T c rc rf rt m k a a) (cd := rl_code (14 * m + k) (5 * a + a)) ?_ (yb_am hJ.1 hJ.2.2.1 h2 h5 hk ha) (fun hva => ?_) (fun _ => ?_) (fun J' hys' => ?_)
    · intro q
      have := Int32.le_iff_toInt_le.mp q
      rw [nI_toInt (by omega), show (-1 : Int32).toInt = -1 from rfl] at this
      omega
    · obtain ⟨q1, q2⟩ := Bool.and_eq_true_iff.mp hva
      exact yi_all hJ hfu hk ha (Or.inr ⟨rfl, rfl, q1, q2⟩) hm
    · rw [rl_code_e m k a a hk (by omega), if_pos rfl, Nat.add_zero]
      rw [Int32.add_assoc, show (-1 : Int32) + 1 = 0 from rfl, Int32.add_zero]
    · rw [show (-1 : Int32) + 1 = nI 0 from rfl]
      rw [hv] at hys'
      refine yj_b h hfu hm hk ha hon n w 0 J' _ (by omega) (by omega) hys' ?_ (fun J'' hys'' => hkk J'' ?_)
      · have := ju_len E st (if (nt_al k && jb n on (jd_br n ky low high X T c rc rf rt) (14 * m + k) (5 * a + a)) = true then [rl_code (14 * m + k) (5 * a + a)] else [])
        split at this
        · rename_i q
          rw [if_pos q]
          simp only [List.length_singleton] at this
          omega
        · rename_i q
          rw [if_neg q]
          simp only [List.length_nil] at this
          omega
      · rw [ju_app] at hys''
        exact hys''
  rw [← hw] at key
  exact key
theorem jr_len (f : Nat → Bool) (g : Nat → Nat) : ∀ s b, (jr f g s b).length ≤ s
  | 0, _ => Nat.le_refl _
  | s + 1, b => by
    have := jr_len f g s (b + 1)
    rw [jr, List.length_append]
    split <;> simp <;> omega
theorem jg_len (al : Bool) (p : Nat → Bool) (g : Nat → Nat) (a : Nat) (h5 : n ≤ 5) : (jg n al p g a).length ≤ 6 := by
  have := jr_len (fun b => !al && p (5 * a + b)) (fun b => g (5 * a + b)) n 0
  unfold jg
  rw [List.length_append]
  split <;> simp <;> omega
theorem yj_a (h : yc K I0 R y n c X T ky low high rc rf rt) (hon7 : ∀ k, k < 14 → I0 (y + 7) k = bI (on k)) (hfu : 130 ≤ fu) {m k : Nat} (hm : m < c) (hk : k < 14) (hon : on k = true) {E : Bool} {kk : Int32 → Int32 → hp_S → Option (Int32 × hp_S)} : ∀ (s w a : Nat) (J : Nat → Nat → Int32) (st : List Nat × Nat), a + s = n → s < w → ys I0 J y T tm st → st.1.length + 6 * s + 6 < 12300 →
    (∀ J', ys I0 J' y T tm (ju E st (jh n (nt_al k) (jb n on (jd_br n ky low high X T c rc rf rt) (14 * m + k)) (rl_code (14 * m + k)) s a)) → pu_ok (kk (nI m) (nI k) (K, J', R, N)) P) → pu_ok (f_X7_judge_L59 fu y kk w (nI m) (nI k) (bI E) (nI a) (K, J, R, N)) P := by
  have h5 := h.2.1.1
  have h2 := h.2.2.2.1
  intro s
  induction s with
  | zero =>
    intro w a J st h1 h3 hys hl hk
    obtain ⟨w, rfl⟩ : ∃ w', w = w' + 1 := ⟨w - 1, by omega⟩
    have h0 : J y 0 = nI n := by rw [hys.2.1 0 (by decide) (by decide)]; exact h.2.2.1
    simp only [f_X7_judge_L59, pu_gi h.1.k, h0, Option.bind_some]
    rw [if_pos (nI_le (show n ≤ a by omega) (by omega))]
    refine hk J ?_
    rw [jh, ju_nil]
    exact hys
  | succ s ih =>
    intro w a J st h1 h3 hys hl hkk
    obtain ⟨w, rfl⟩ : ∃ w', w = w' + 1 := ⟨w - 1, by omega⟩
    have h0 : J y 0 = nI n := by rw [hys.2.1 0 (by decide) (by decide)]; exact h.2.2.1
    have h7 : J (y + 7) k = 1 := by rw [hys.1 _ (by omega) (by omega) (by omega), hon7 k hk, hon]; rfl
    simp only [f_X7_judge_L59, pu_gi h.1.k, h0, Option.bind_some, pu_gr h.1.k h.1.f7.1, pu_li h.1.f7.2 hk (by decide), h7]
    rw [if_neg (nI_ge (show a < n by omega) (by omega)), if_neg (by decide : ¬ (1 : Int32) = 0)]
    refine yj_bb h hfu hm hk (by omega) hon hys (by omega) (fun J' hys' => ?_)
    simp only [f_X7_judge_B186, ho_id, Option.bind_some, nI_1]
    have l1 := ju_len E st (jg n (nt_al k) (jb n on (jd_br n ky low high X T c rc rf rt) (14 * m + k)) (rl_code (14 * m + k)) a)
    have l2 := jg_len (n := n) (nt_al k) (jb n on (jd_br n ky low high X T c rc rf rt) (14 * m + k)) (rl_code (14 * m + k)) a h5
    refine ih w (a + 1) J' _ (by omega) (by omega) hys' (by omega) (fun J'' hys'' => hkk J'' ?_)
    rw [ju_app] at hys''
    exact hys''
end YJ2
