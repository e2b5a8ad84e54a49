/-! the notes at a time; chords -/
abbrev nt_T : Type := Nat × Int
def ev_n (tm : Nat → Nat) (u : Nat) : Nat → Nat
  | 0 => 0
  | s + 1 => if tm s ≤ u then s + 1 else ev_n tm u s
theorem ev_le (tm : Nat → Nat) (u : Nat) : ∀ s, ev_n tm u s ≤ s
  | 0 => Nat.le_refl _
  | s + 1 => by
    unfold ev_n
    split
    · exact Nat.le_refl _
    · exact Nat.le_succ_of_le (ev_le tm u s)
theorem ev_spec {tm : Nat → Nat} {u : Nat} : ∀ {s : Nat}, (∀ i j, i < j → j < s → tm i < tm j) → (∀ i, i < ev_n tm u s → tm i ≤ u) ∧ ∀ i, ev_n tm u s ≤ i → i < s → u < tm i
  | 0, _ => ⟨fun i hi => absurd hi (Nat.not_lt_zero _), fun i _ hi => absurd hi (Nat.not_lt_zero _)⟩
  | s + 1, hr => by
    unfold ev_n
    by_cases h : tm s ≤ u
    · rw [if_pos h]
      refine ⟨fun i hi => ?_, fun i h1 h2 => by omega⟩
      rcases Nat.lt_or_ge i s with q | q
      · have := hr i s q (by omega)
        omega
      · have : i = s := by omega
        rw [this]
        exact h
    · rw [if_neg h]
      obtain ⟨e1, e2⟩ := ev_spec (tm := tm) (u := u) (s := s) (fun i j q1 q2 => hr i j q1 (by omega))
      refine ⟨e1, fun i h1 h2 => ?_⟩
      rcases Nat.lt_or_ge i s with q | q
      · exact e2 i h1 q
      · have : i = s := by omega
        rw [this]
        omega
theorem ev_uniq {tm : Nat → Nat} {u s k : Nat} (hr : ∀ i j, i < j → j < s → tm i < tm j) (hk : k ≤ s) (h1 : ∀ i, i < k → tm i ≤ u) (h2 : ∀ i, k ≤ i → i < s → u < tm i) : k = ev_n tm u s := by
  obtain ⟨e1, e2⟩ := ev_spec (u := u) hr
  have e3 := ev_le tm u s
  rcases Nat.lt_trichotomy k (ev_n tm u s) with q | q | q
  · have a1 := e1 k q
    have a2 := h2 k (Nat.le_refl _) (by omega)
    omega
  · exact q
  · have a1 := h1 _ q
    have a2 := e2 _ (Nat.le_refl _) (by omega)
    omega
def nt_k (d : rl_D) (u v : Nat) : Nat := ev_n (d.2.1 v) u (d.1 v)
def nt_at (d : rl_D) (u v : Nat) : Option nt_T := if nt_k d u v = 0 ∨ d.2.2.1 v (nt_k d u v - 1) = -1 then none else some ((d.2.2.1 v (nt_k d u v - 1)).toNatClampNeg, (d.2.2.2.1 v (nt_k d u v - 1)).toInt)
def nt_ok (q : nt_T) : Prop := q.1 ≤ 55 ∧ -2 ≤ q.2 ∧ q.2 ≤ 2
def nt_h (q : nt_T) : Int := 12 * ((q.1 / 7 : Nat) : Int) + (([0, 2, 4, 5, 7, 9, 11].getD (q.1 % 7) 0 : Nat) : Int) + q.2
theorem nt_hN (q : nt_T) : ht_N q.1 (iI q.2) = iI (nt_h q) := by
  unfold ht_N nt_h
  rw [show (12 : Int32) = iI 12 from rfl, iI_nat, iI_nat, iI_mul, iI_add, iI_add]
theorem nt_sc (r : Nat) (hr : r < 7) : [0, 2, 4, 5, 7, 9, 11].getD r 0 ≤ 11 := by
  have : r = 0 ∨ r = 1 ∨ r = 2 ∨ r = 3 ∨ r = 4 ∨ r = 5 ∨ r = 6 := by omega
  rcases this with rfl | rfl | rfl | rfl | rfl | rfl | rfl <;> decide
theorem nt_hb {q : nt_T} (h : nt_ok q) : -2 ≤ nt_h q ∧ nt_h q ≤ 97 := by
  obtain ⟨h1, h2, h3⟩ := h
  have := nt_sc (q.1 % 7) (Nat.mod_lt _ (by decide))
  unfold nt_h
  omega
theorem nt_atok {d : rl_D} {n u v : Nat} (hd : rl_ok n d) (hv : v < n) {q : nt_T} (h : nt_at d u v = some q) : nt_ok q ∧ 0 < nt_k d u v ∧ nt_k d u v - 1 < d.1 v ∧ d.2.2.1 v (nt_k d u v - 1) = nI q.1 ∧ d.2.2.2.1 v (nt_k d u v - 1) = iI q.2 := by
  unfold nt_at at h
  have hle : nt_k d u v ≤ d.1 v := ev_le _ _ _
  by_cases hc : nt_k d u v = 0 ∨ d.2.2.1 v (nt_k d u v - 1) = -1
  · rw [if_pos hc] at h
    exact absurd h (by simp)
  · rw [if_neg hc] at h
    have hc1 : ¬ nt_k d u v = 0 := fun e => hc (Or.inl e)
    have hc2 : ¬ d.2.2.1 v (nt_k d u v - 1) = -1 := fun e => hc (Or.inr e)
    have hn := hd.2 v hv (nt_k d u v - 1) (by omega)
    obtain ⟨k, k1, k2⟩ := hn.cases hc2
    injection h with h
    subst h
    have e1 : (d.2.2.1 v (nt_k d u v - 1)).toNatClampNeg = k := by rw [k2, nI_clamp (by omega)]
    rcases hn with q | ⟨q1, q2, q3, q4⟩
    · exact absurd q.1 hc2
    · have a1 := Int32.le_iff_toInt_le.mp q3
      have a2 := Int32.le_iff_toInt_le.mp q4
      rw [show (-2 : Int32).toInt = -2 from rfl] at a1
      rw [show (2 : Int32).toInt = 2 from rfl] at a2
      exact ⟨⟨by show _ ≤ 55; simp only [e1]; exact k1, a1, a2⟩, by omega, by omega, by simp only [e1]; exact k2, iI_of _⟩
theorem nt_atno {d : rl_D} {u v : Nat} (h : nt_at d u v = none) : nt_k d u v = 0 ∨ d.2.2.1 v (nt_k d u v - 1) = -1 := by
  unfold nt_at at h
  by_cases hc : nt_k d u v = 0 ∨ d.2.2.1 v (nt_k d u v - 1) = -1
  · exact hc
  · rw [if_neg hc] at h
    exact absurd h (by simp)
/-- the class's chord at c -/
def ch_at (I : Nat → Nat → Int32) (c n : Nat) (X : Nat → Option nt_T) : Prop := ∀ v, v < n → (X v = none → I (c + 1) v = 0) ∧ ∀ q, X v = some q → I (c + 1) v = 1 ∧ I (c + 2) v = nI q.1 ∧ I (c + 3) v = iI q.2 ∧ I (c + 4) v = iI (nt_h q)
theorem ch_at.keep {I J : Nat → Nat → Int32} {c n : Nat} {X : Nat → Option nt_T} (h : ch_at I c n X) (h1 : J (c + 1) = I (c + 1)) (h2 : J (c + 2) = I (c + 2)) (h3 : J (c + 3) = I (c + 3)) (h4 : J (c + 4) = I (c + 4)) : ch_at J c n X := by
  unfold ch_at
  rw [h1, h2, h3, h4]
  exact h
section CH
variable {K : Nat → Nat × Nat} {I I' : Nat → Nat → Int32} {R : Nat → Nat → Option Nat} {N fu x y n p s : Nat} {d d' : rl_D} {tm : Nat → Nat}
theorem ll_loop (hp : sp_P K R p) (hs : I p 3 = nI s) (h24 : s ≤ 24) (ht : ∀ i, i < s → I (p + 1) i = nI (tm i) ∧ tm i < 1000) {u k : Nat} (hu : u < 1000) (hk : k ≤ s) (h1 : ∀ i, i < k → tm i ≤ u) (h2 : ∀ i, k ≤ i → i < s → u < tm i) : ∀ (m c w : Nat), (w = 0 ∧ k = c) ∨ ((w = 1 ∨ w = 2 ∨ w = 4 ∨ w = 8 ∨ w = 16) ∧ c ≤ k ∧ k < c + 2 * w) → w < m → f_X4_lastNotLater_L5 fu p (nI u) (f_X4_lastNotLater_B44 fu p (nI u)) m (nI c - 1) (nI w) (K, I, R, N) = some (nI k - 1, (K, I, R, N)) := by
  intro m
  induction m with
  | zero => intro c w _ h; omega
  | succ m ih =>
    intro c w hc hm
    rcases hc with ⟨rfl, rfl⟩ | ⟨hw, hc1, hc2⟩
    · simp only [f_X4_lastNotLater_L5, f_X4_lastNotLater_B44, nI_0]
      rw [if_pos (Int32.le_refl _)]
    · have hdv : ho_dv (nI w) 2 = some (nI (w / 2)) := by
        unfold ho_dv
        rw [if_neg (by decide), show (2 : Int32) = nI 2 from rfl, pk_div (by omega) (by decide) (by decide)]
      have hadd : (nI c - 1) + nI w = nI (c + w - 1) := by
        have : nI (c + w - 1) = nI (c + w) - 1 := by
          obtain ⟨e, he⟩ : ∃ e, c + w = e + 1 := ⟨c + w - 1, by omega⟩
          rw [he, nI_pred, Nat.add_sub_cancel]
        rw [this, ← nI_add, Int32.sub_eq_add_neg, Int32.sub_eq_add_neg, Int32.add_assoc, Int32.add_assoc, Int32.add_comm (-1) (nI w)]
      simp only [f_X4_lastNotLater_L5, f_X4_lastNotLater_B37, hadd, hdv, ho_id, pu_gi hp.1, hs, Option.bind_some, pu_gr hp.1 hp.2.1]
      rw [if_neg (nI_nle (by omega) (by omega))]
      have nx : ∀ c', c' ≤ k → k < c' + w → f_X4_lastNotLater_L5 fu p (nI u) (f_X4_lastNotLater_B44 fu p (nI u)) m (nI c' - 1) (nI (w / 2)) (K, I, R, N) = some (nI k - 1, (K, I, R, N)) := by
        intro c' q1 q2
        refine ih c' (w / 2) ?_ (by omega)
        rcases hw with rfl | rfl | rfl | rfl | rfl
        · exact Or.inl ⟨rfl, by omega⟩
        · exact Or.inr ⟨Or.inl rfl, q1, by omega⟩
        · exact Or.inr ⟨Or.inr (Or.inl rfl), q1, by omega⟩
        · exact Or.inr ⟨Or.inr (Or.inr (Or.inl rfl)), q1, by omega⟩
        · exact Or.inr ⟨Or.inr (Or.inr (Or.inr (Or.inl rfl))), q1, by omega⟩
      by_cases hse : s ≤ c + w - 1
      · rw [if_pos (nI_le hse (by omega))]
        exact nx c hc1 (by omega)
      · rw [if_neg (nI_ge (by omega) (by omega)), pu_li hp.2.2.2.2.1 (by omega) (by decide), (ht _ (by omega)).1]
        simp only [Option.bind_some]
        have ht2 := (ht (c + w - 1) (by omega)).2
        by_cases hlt : u < tm (c + w - 1)
        · rw [if_pos (nI_lt hlt (by omega))]
          refine nx c hc1 ?_
          rcases Nat.lt_or_ge k (c + w) with q | q
          · exact q
          · have := h1 (c + w - 1) (by omega)
            omega
        · rw [if_neg (nI_nlt (by omega) (by omega))]
          have hck : c + w ≤ k := by
            rcases Nat.lt_or_ge k (c + w) with q | q
            · have := h2 (c + w - 1) (by omega) (by omega)
              omega
            · exact q
          have := nx (c + w) hck (by omega)
          obtain ⟨e, he⟩ : ∃ e, c + w = e + 1 := ⟨c + w - 1, by omega⟩
          rw [he, nI_pred] at this
          rw [he, Nat.add_sub_cancel]
          exact this
theorem ll_last (hX : sp_X K R x n) (hX1 : rl_X1 I x n d) (hd : rl_ok n d) {u v : Nat} (hu : u < 1000) (hv : v < n) (hfu : 20 ≤ fu) : f_X4_lastNotLater fu (x + 2 + 4 * v) (nI u) (K, I, R, N) = some (nI (nt_k d u v) - 1, (K, I, R, N)) := by
  obtain ⟨o1, o2, o3⟩ := hd.1 v hv
  obtain ⟨e1, e2, e3, e4⟩ := hX1 v hv
  obtain ⟨s1, s2⟩ := ev_spec (u := u) o3
  have := ll_loop (fu := fu) (N := N) (p := x + 2 + 4 * v) (hX.p hv).2 e1 o1 (fun i hi => ⟨(e4 i hi).1, o2 i hi⟩) hu (ev_le _ _ _) s1 s2 fu 0 16 (Or.inr ⟨by omega, Nat.zero_le _, by have := ev_le (d.2.1 v) u (d.1 v); omega⟩) (by omega)
  exact this
theorem pa_isNote2 (hp : sp_P K R p) {i : Nat} (hi : i < 24) : f_X4_isNote fu p (nI i) (K, I, R, N) = some (if I (p + 2) i = -1 then 0 else 1, (K, I, R, N)) := pa_isNote hp hi
theorem ld_loop (hX : sp_X K R x n) (hX1 : rl_X1 I x n d) (hd : rl_ok n d) {c u : Nat} (hC : sp_C K R c) (hc : sp_t x n ≤ c) (hu : u < 1000) (hfu : 20 ≤ fu) : ∀ (m i : Nat) (J : Nat → Nat → Int32), i ≤ n → n - i < m → (∀ b, b < c ∨ b = c ∨ c + 4 < b → J b = I b) → ch_at J c i (nt_at d u) → pu_ok (f_X0_load_L2 fu c (x + 1) (nI u) (f_X0_load_B104 fu c (x + 1) (nI u)) m (nI i) (K, J, R, N)) (fun z => ∃ J', z = (K, J', R, N) ∧ (∀ b, b < c ∨ b = c ∨ c + 4 < b → J' b = I b) ∧ ch_at J' c n (nt_at d u)) := by
  have ht : sp_t x n = x + 2 + 4 * n := rfl
  have h5 := hX.n5
  intro m
  induction m with
  | zero => intro i J h1 h2; omega
  | succ m ih =>
    intro i J h1 h2 h3 h4
    simp only [f_X0_load_L2, pu_ln hX.a.2.1, Option.bind_some]
    by_cases hi : n ≤ i
    · rw [if_pos (nI_le hi (by omega))]
      have : i = n := by omega
      subst this
      exact pu_some ⟨J, rfl, h3, h4⟩
    · rw [if_neg (nI_ge (by omega) (by omega))]
      have hin : i < n := by omega
      obtain ⟨hr, hp⟩ := hX.p hin
      have o1 := (hd.1 i hin).1
      have q2 : ho_lr 4 (x + 1) (nI i) (K, J, R, N) = some (x + 2 + 4 * i) := pu_lr hX.a.2.1 hin (by omega) hr
      have hX1J : rl_X1 J x n d := hX1.keep (fun b _ _ => h3 b (by omega))
      obtain ⟨e1, e2, e3, e4⟩ := hX1J i hin
      have hkle : nt_k d u i ≤ d.1 i := ev_le _ _ _
      simp only [q2, pu_is hp.1, ll_last hX hX1J hd hu hin hfu, pu_gr hC.1 hC.2.1, Option.bind_some]
      have hno : nt_at d u i = none → pu_ok (f_X0_load_B46 fu c (x + 1) (nI u) (f_X0_load_L2 fu c (x + 1) (nI u) (f_X0_load_B104 fu c (x + 1) (nI u)) m) (f_X0_load_B104 fu c (x + 1) (nI u)) (nI i) (x + 2 + 4 * i) (nI (nt_k d u i) - 1) (nI i) (c + 1) (K, J, R, N)) (fun z => ∃ J', z = (K, J', R, N) ∧ (∀ b, b < c ∨ b = c ∨ c + 4 < b → J' b = I b) ∧ ch_at J' c n (nt_at d u)) := by
        intro hn
        simp only [f_X0_load_B46, f_X0_load_B47, f_X0_load_B98, pu_sz hC.2.2.2.2.2.1 (show i < 5 by omega) (by decide), pu_vn0, pu_gr hC.1 hC.2.1, pu_li hC.2.2.2.2.2.1 (show i < 5 by omega) (by decide), pu_set_at, Option.bind_some, if_true, ho_id, nI_1]
        refine ih (i + 1) _ (by omega) (by omega) (fun b hb => by rw [pu_set_row _ _ _ _ (by omega)]; exact h3 b hb) (fun v hv => ?_)
        rw [pu_set_row _ _ _ _ (show c + 2 ≠ c + 1 by omega), pu_set_row _ _ _ _ (show c + 3 ≠ c + 1 by omega), pu_set_row _ _ _ _ (show c + 4 ≠ c + 1 by omega), pu_set]
        simp only [if_true]
        by_cases hvi : v = i
        · subst hvi
          rw [if_pos rfl]
          exact ⟨fun _ => rfl, fun q hq => absurd (hn.symm.trans hq) (by simp)⟩
        · rw [if_neg hvi]
          exact h4 v (by omega)
      by_cases hk0 : nt_k d u i = 0
      · rw [if_pos (by rw [hk0]; rfl)]
        exact hno (by unfold nt_at; rw [if_pos (Or.inl hk0)])
      · obtain ⟨k, hk⟩ : ∃ k, nt_k d u i = k + 1 := ⟨nt_k d u i - 1, by omega⟩
        rw [if_neg (by rw [hk, nI_pred]; exact sp_note.ne (h := 0) (show k ≤ 55 by omega) rfl)]
        simp only [hk, nI_pred, pa_isNote hp (show k < 24 by omega), (e4 k (by omega)).2.1, Option.bind_some]
        rw [hk, nI_pred] at hno
        by_cases hs : d.2.2.1 i k = -1
        · rw [if_pos hs, if_pos rfl]
          exact hno (by unfold nt_at; rw [hk, Nat.add_sub_cancel, if_pos (Or.inr hs)])
        · rw [if_neg hs, if_neg (by decide : ¬ (1 : Int32) = 0)]
          have hat : ∃ q, nt_at d u i = some q := by
            unfold nt_at
            rw [hk, Nat.add_sub_cancel, if_neg (fun h => h.elim (by omega) hs)]
            exact ⟨_, rfl⟩
          obtain ⟨q, hq⟩ := hat
          obtain ⟨k1, -, k3, k4, k5⟩ := nt_atok hd hin hq
          rw [hk, Nat.add_sub_cancel] at k4 k5
          simp only [f_X0_load_B47, f_X0_load_B98, pu_sz hC.2.2.2.2.2.1 (show i < 5 by omega) (by decide), pu_vn1, pu_gr hC.1 hC.2.1, pu_li hC.2.2.2.2.2.1 (show i < 5 by omega) (by decide), pu_set_at, Option.bind_some, ho_id, nI_1]
          rw [if_neg (by decide : ¬ (1 : Int32) = 0)]
          simp only [pu_gr hC.1 hC.2.2.1, pu_gr hp.1 hp.2.2.1, Option.bind_some, pu_li hp.2.2.2.2.2.1 (show k < 24 by omega) (by decide), pu_si hC.2.2.2.2.2.2.1 (show i < 5 by omega) (by decide), pu_gr hC.1 hC.2.2.2.1, pu_gr hp.1 hp.2.2.2.1, pu_li hp.2.2.2.2.2.2 (show k < 24 by omega) (by decide), pu_si hC.2.2.2.2.2.2.2.1 (show i < 5 by omega) (by decide), pu_gr hC.1 hC.2.2.2.2.1, pu_is hp.1]
          generalize hJ1 : hp_set (hp_set (hp_set J (c + 1) i 1) (c + 2) i (hp_set J (c + 1) i 1 (x + 2 + 4 * i + 2) k)) (c + 3) i (hp_set (hp_set J (c + 1) i 1) (c + 2) i (hp_set J (c + 1) i 1 (x + 2 + 4 * i + 2) k) (x + 2 + 4 * i + 3) k) = J1
          have j1 : ∀ b, b ≠ c + 1 → b ≠ c + 2 → b ≠ c + 3 → J1 b = J b := fun b q1 q2 q3 => by rw [← hJ1, pu_set_row _ _ _ _ q3, pu_set_row _ _ _ _ q2, pu_set_row _ _ _ _ q1]
          have j2 : J1 (x + 2 + 4 * i + 2) k = nI q.1 := by rw [j1 _ (by omega) (by omega) (by omega), (e4 k (by omega)).2.1]; exact k4
          have j3 : J1 (x + 2 + 4 * i + 3) k = iI q.2 := by rw [j1 _ (by omega) (by omega) (by omega), (e4 k (by omega)).2.2]; exact k5
          rw [ht_x hp (show k < 24 by omega) k1.1 j2, j3, nt_hN]
          simp only [Option.bind_some, pu_si hC.2.2.2.2.2.2.2.2 (show i < 5 by omega) (by decide)]
          refine ih (i + 1) _ (by omega) (by omega) (fun b hb => by rw [pu_set_row _ _ _ _ (by omega), j1 _ (by omega) (by omega) (by omega)]; exact h3 b hb) (fun v hv => ?_)
          rw [pu_set_row _ _ _ _ (show c + 1 ≠ c + 4 by omega), pu_set_row _ _ _ _ (show c + 2 ≠ c + 4 by omega), pu_set_row _ _ _ _ (show c + 3 ≠ c + 4 by omega)]
          have g1 : J1 (c + 1) v = if v = i then 1 else J (c + 1) v := by
            rw [← hJ1, pu_set_row _ _ _ _ (by omega), pu_set_row _ _ _ _ (by omega), pu_set]
            simp only [if_true]
          have g2 : J1 (c + 2) v = if v = i then nI q.1 else J (c + 2) v := by
            rw [← hJ1, pu_set_row _ _ _ _ (by omega), pu_set]
            simp only [if_true]
            rw [pu_set_row _ _ _ _ (by omega), pu_set_row _ _ _ _ (by omega), (e4 k (by omega)).2.1, k4]
          have g3 : J1 (c + 3) v = if v = i then iI q.2 else J (c + 3) v := by
            rw [← hJ1, pu_set]
            simp only [if_true]
            rw [pu_set_row _ _ _ _ (by omega), pu_set_row _ _ _ _ (by omega), (e4 k (by omega)).2.2, k5, pu_set_row _ _ _ _ (by omega), pu_set_row _ _ _ _ (by omega)]
          have g4 : hp_set J1 (c + 4) i (iI (nt_h q)) (c + 4) v = if v = i then iI (nt_h q) else J (c + 4) v := by
            rw [pu_set]
            simp only [if_true]
            rw [j1 _ (by omega) (by omega) (by omega)]
          rw [g1, g2, g3, g4]
          by_cases hvi : v = i
          · subst hvi
            simp only [if_true]
            refine ⟨fun hn => absurd (hn.symm.trans hq) (by simp), fun q' hq' => ?_⟩
            have : q = q' := by
              have := hq.symm.trans hq'
              injection this
            subst this
            simp
          · simp only [if_neg hvi]
            exact h4 v (by omega)
theorem ld_load (hX : sp_X K R x n) (hX1 : rl_X1 I x n d) (hd : rl_ok n d) {c u : Nat} (hC : sp_C K R c) (hc : sp_t x n ≤ c) (hu : u < 1000) (hfu : 20 ≤ fu) : pu_ok (f_X0_load fu c (x + 1) (nI u) (K, I, R, N)) (fun z => ∃ J', z = (K, J', R, N) ∧ (∀ b, b < c ∨ b = c ∨ c + 4 < b → J' b = I b) ∧ ch_at J' c n (nt_at d u)) := by
  have h5 := hX.n5
  have := ld_loop (fu := fu) (N := N) hX hX1 hd hC hc hu hfu fu 0 I (Nat.zero_le _) (by omega) (fun _ _ => rfl) (fun v hv => absurd hv (Nat.not_lt_zero _))
  rw [nI_0] at this
  exact this
end CH
