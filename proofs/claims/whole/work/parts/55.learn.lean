/-! THE REFERENCE's shape, and its learn() -/
def sp_Y (K : Nat → Nat × Nat) (R : Nat → Nat → Option Nat) (y : Nat) : Prop := K y = (7 + 3, 0) ∧ (R y 1 = some (y + 1) ∧ K (y + 1) = (1, 5)) ∧ (R y 2 = some (y + 2) ∧ K (y + 2) = (1, 120)) ∧ (R y 3 = some (y + 3) ∧ K (y + 3) = (1, 120)) ∧ (R y 4 = some (y + 4) ∧ K (y + 4) = (1, 120)) ∧ (R y 5 = some (y + 5) ∧ K (y + 5) = (1, 5)) ∧ (R y 6 = some (y + 6) ∧ K (y + 6) = (1, 5)) ∧ (R y 7 = some (y + 7) ∧ K (y + 7) = (2, 14)) ∧ (R y 11 = some (y + 8) ∧ K (y + 8) = (1, 4)) ∧ (R y 12 = some (y + 9) ∧ K (y + 9) = (1, 4)) ∧ (R y 14 = some (y + 10) ∧ K (y + 10) = (1, 20)) ∧ (R y 15 = some (y + 11) ∧ K (y + 11) = (1, 20)) ∧ (R y 17 = some (y + 12) ∧ K (y + 12) = (1, 120)) ∧ (R y 18 = some (y + 13) ∧ K (y + 13) = (1, 600)) ∧ (R y 21 = some (y + 14) ∧ K (y + 14) = (1, 12300)) ∧ (R y 22 = some (y + 15) ∧ K (y + 15) = (1, 120))
section SPY
variable {K : Nat → Nat × Nat} {R : Nat → Nat → Option Nat} {y : Nat}
theorem sp_Y.k (h : sp_Y K R y) : K y = (7 + 3, 0) := h.1
theorem sp_Y.f1 (h : sp_Y K R y) : R y 1 = some (y + 1) ∧ K (y + 1) = (1, 5) := h.2.1
theorem sp_Y.f2 (h : sp_Y K R y) : R y 2 = some (y + 2) ∧ K (y + 2) = (1, 120) := h.2.2.1
theorem sp_Y.f3 (h : sp_Y K R y) : R y 3 = some (y + 3) ∧ K (y + 3) = (1, 120) := h.2.2.2.1
theorem sp_Y.f4 (h : sp_Y K R y) : R y 4 = some (y + 4) ∧ K (y + 4) = (1, 120) := h.2.2.2.2.1
theorem sp_Y.f5 (h : sp_Y K R y) : R y 5 = some (y + 5) ∧ K (y + 5) = (1, 5) := h.2.2.2.2.2.1
theorem sp_Y.f6 (h : sp_Y K R y) : R y 6 = some (y + 6) ∧ K (y + 6) = (1, 5) := h.2.2.2.2.2.2.1
theorem sp_Y.f7 (h : sp_Y K R y) : R y 7 = some (y + 7) ∧ K (y + 7) = (2, 14) := h.2.2.2.2.2.2.2.1
theorem sp_Y.f11 (h : sp_Y K R y) : R y 11 = some (y + 8) ∧ K (y + 8) = (1, 4) := h.2.2.2.2.2.2.2.2.1
theorem sp_Y.f12 (h : sp_Y K R y) : R y 12 = some (y + 9) ∧ K (y + 9) = (1, 4) := h.2.2.2.2.2.2.2.2.2.1
theorem sp_Y.f14 (h : sp_Y K R y) : R y 14 = some (y + 10) ∧ K (y + 10) = (1, 20) := h.2.2.2.2.2.2.2.2.2.2.1
theorem sp_Y.f15 (h : sp_Y K R y) : R y 15 = some (y + 11) ∧ K (y + 11) = (1, 20) := h.2.2.2.2.2.2.2.2.2.2.2.1
theorem sp_Y.f17 (h : sp_Y K R y) : R y 17 = some (y + 12) ∧ K (y + 12) = (1, 120) := h.2.2.2.2.2.2.2.2.2.2.2.2.1
theorem sp_Y.f18 (h : sp_Y K R y) : R y 18 = some (y + 13) ∧ K (y + 13) = (1, 600) := h.2.2.2.2.2.2.2.2.2.2.2.2.2.1
theorem sp_Y.f21 (h : sp_Y K R y) : R y 21 = some (y + 14) ∧ K (y + 14) = (1, 12300) := h.2.2.2.2.2.2.2.2.2.2.2.2.2.2.1
theorem sp_Y.f22 (h : sp_Y K R y) : R y 22 = some (y + 15) ∧ K (y + 15) = (1, 120) := h.2.2.2.2.2.2.2.2.2.2.2.2.2.2.2
end SPY
/-- sizes and times of events that are in order -/
def sp_ok (n : Nat) (sz : Nat → Nat) (tm : Nat → Nat → Nat) : Prop := ∀ v, v < n → sz v ≤ 24 ∧ (∀ i, i < sz v → tm v i < 1000) ∧ ∀ i j, i < j → j < sz v → tm v i < tm v j
/-- the events' times as the reference holds them -/
def sp_YE (I : Nat → Nat → Int32) (y n : Nat) (sz : Nat → Nat) (tm : Nat → Nat → Nat) : Prop := I y 0 = nI n ∧ ∀ v, v < n → I (y + 1) v = nI (sz v) ∧ ∀ i, i < sz v → I (y + 2) (24 * v + i) = nI (tm v i)
theorem lr_ix (v i : Nat) : (24 * nI v) + nI i = nI (24 * v + i) := by rw [show (24 : Int32) = nI 24 from rfl, pk_mul, nI_add]
theorem lr_ix1 (v k : Nat) : ((24 * nI v) + nI (k + 1)) - 1 = nI (24 * v + k) := by rw [lr_ix, ← Nat.add_assoc, nI_pred]
theorem lr_ix2 (v i : Nat) : (120 * nI v) + nI i = nI (120 * v + i) := by rw [show (120 : Int32) = nI 120 from rfl, pk_mul, nI_add]
section LR
variable {K : Nat → Nat × Nat} {I : Nat → Nat → Int32} {R : Nat → Nat → Option Nat} {N fu y n g : Nat} {sz : Nat → Nat} {tm : Nat → Nat → Nat} {Q : hp_S → Prop}
/-- is one of a voice's events at the time x? -/
theorem lr_voice (hY : sp_Y K R y) (hE : sp_YE I y n sz tm) (ho : sp_ok n sz tm) (hn : n ≤ 5) {x v : Nat} (hv : v < n) (hx : x < 2 ^ 31) (w1 : Int32) (kk : Int32 → Int32 → Int32 → Int32 → hp_S → Option hp_S) : ∀ (m j : Nat) (b0 : Int32), j ≤ sz v → sz v - j < m → (b0 = 0 ∨ b0 = 1) →
    (∀ b : Int32, (b = 1 ∧ (b0 = 1 ∨ ∃ i, j ≤ i ∧ i < sz v ∧ tm v i = x)) ∨ (b = 0 ∧ b0 = 0 ∧ ∀ i, j ≤ i → i < sz v → tm v i ≠ x) → pu_ok (kk w1 (nI x) b (nI v) (K, I, R, N)) Q) →
    pu_ok (f_X7_learn_L121 fu y kk m w1 (nI x) b0 (nI v) (nI j) (K, I, R, N)) Q := by
  intro m
  induction m with
  | zero => intro j b0 h1 h2; omega
  | succ m ih =>
    intro j b0 h1 h2 hb hk
    obtain ⟨e1, e2⟩ := hE.2 v hv
    obtain ⟨o1, o2, -⟩ := ho v hv
    simp only [f_X7_learn_L121, f_X7_learn_B154, f_X7_learn_B159, pu_gr hY.k hY.f1.1, pu_gr hY.k hY.f2.1, Option.bind_some, pu_li hY.f1.2 (show v < 5 by omega) (by decide), e1, ho_id]
    by_cases hc : sz v ≤ j
    · rw [if_pos (nI_le hc (by omega))]
      rcases hb with hb | hb
      · exact hk b0 (Or.inr ⟨hb, hb, fun i q1 q2 => by omega⟩)
      · exact hk b0 (Or.inl ⟨hb, Or.inl hb⟩)
    · rw [if_neg (nI_ge (by omega) (by omega)), nI_1]
      rcases hb with hb | hb
      · subst hb
        rw [if_pos rfl, lr_ix, pu_li hY.f2.2 (by omega) (by decide), e2 j (by omega)]
        simp only [Option.bind_some]
        have t1 := o2 j (by omega)
        by_cases hm : tm v j = x
        · rw [if_pos (by rw [hm])]
          refine ih (j + 1) 1 (by omega) (by omega) (Or.inr rfl) (fun b hb => hk b ?_)
          rcases hb with ⟨q1, -⟩ | ⟨-, q2, -⟩
          · exact Or.inl ⟨q1, Or.inr ⟨j, Nat.le_refl _, by omega, hm⟩⟩
          · exact absurd q2 (by decide)
        · rw [if_neg (fun q => hm ((nI_eq (by omega) hx).mp q))]
          refine ih (j + 1) 0 (by omega) (by omega) (Or.inl rfl) (fun b hb => hk b ?_)
          rcases hb with ⟨q1, q2 | ⟨i, i1, i2, i3⟩⟩ | ⟨q1, -, q3⟩
          · exact absurd q2 (by decide)
          · exact Or.inl ⟨q1, Or.inr ⟨i, by omega, i2, i3⟩⟩
          · refine Or.inr ⟨q1, rfl, fun i i1 i2 => ?_⟩
            rcases Nat.lt_or_ge j i with q | q
            · exact q3 i q i2
            · have : i = j := by omega
              rw [this]
              exact hm
      · subst hb
        rw [if_neg (by decide)]
        refine ih (j + 1) 1 (by omega) (by omega) (Or.inr rfl) (fun b hb => hk b ?_)
        rcases hb with ⟨q1, -⟩ | ⟨-, q2, -⟩
        · exact Or.inl ⟨q1, Or.inl rfl⟩
        · exact absurd q2 (by decide)
/-- is one of all events at the time x? -/
theorem lr_any (hY : sp_Y K R y) (hE : sp_YE I y n sz tm) (ho : sp_ok n sz tm) (hn : n ≤ 5) (hg : I y 9 = 0) (hfu : 30 ≤ fu) {x : Nat} (hx : x < 2 ^ 31) (w1 : Int32) (kk : Int32 → Int32 → Int32 → hp_S → Option hp_S) : ∀ (m v : Nat) (b0 : Int32), v ≤ n → n - v < m → (b0 = 1 ∧ (∃ u, u < v ∧ ∃ i, i < sz u ∧ tm u i = x)) ∨ (b0 = 0 ∧ ∀ u, u < v → ∀ i, i < sz u → tm u i ≠ x) →
    (∀ b : Int32, (b = 1 ∧ sp_isE n sz tm x) ∨ (b = 0 ∧ ¬ sp_isE n sz tm x) → pu_ok (kk w1 (nI x) b (K, I, R, N)) Q) →
    pu_ok (f_X7_learn_L98 fu y kk m w1 (nI x) b0 (nI v) (K, I, R, N)) Q := by
  intro m
  induction m with
  | zero => intro v b0 h1 h2; omega
  | succ m ih =>
    intro v b0 h1 h2 hb hk
    simp only [f_X7_learn_L98, pu_gi hY.k, Option.bind_some, hE.1, hg, if_true]
    by_cases hc : n ≤ v
    · rw [if_pos (nI_le hc (by omega))]
      have : v = n := by omega
      subst this
      rcases hb with ⟨q1, u, q2, i, q3, q4⟩ | ⟨q1, q2⟩
      · exact hk b0 (Or.inl ⟨q1, u, q2, i, q3, q4⟩)
      · exact hk b0 (Or.inr ⟨q1, fun ⟨u, u1, i, i1, i2⟩ => q2 u u1 i i1 i2⟩)
    · rw [if_neg (nI_ge (by omega) (by omega))]
      rcases hb with ⟨q1, u, q2, i, q3, q4⟩ | ⟨q1, q2⟩
      · rw [if_neg (by rw [q1]; decide)]
        exact hk b0 (Or.inl ⟨q1, u, by omega, i, q3, q4⟩)
      · rw [if_pos q1]
        have o1 := (ho v (by omega)).1
        refine lr_voice hY hE ho hn (by omega) hx w1 _ fu 0 b0 (Nat.zero_le _) (by omega) (Or.inl q1) (fun b hb => ?_)
        simp only [f_X7_learn_B166, ho_id, Option.bind_some, nI_1]
        refine ih (v + 1) b (by omega) (by omega) ?_ hk
        rcases hb with ⟨r1, r2 | ⟨i, -, i2, i3⟩⟩ | ⟨r1, -, r3⟩
        · rw [q1] at r2
          exact absurd r2 (by decide)
        · exact Or.inl ⟨r1, v, by omega, i, i2, i3⟩
        · refine Or.inr ⟨r1, fun u hu i hi => ?_⟩
          rcases Nat.lt_or_ge u v with q | q
          · exact q2 u q i hi
          · have : u = v := by omega
            subst this
            exact r3 i (Nat.zero_le _) hi
end LR
