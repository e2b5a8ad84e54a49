section LR3
variable {K : Nat → Nat × Nat} {I : Nat → Nat → Int32} {R : Nat → Nat → Option Nat} {N fu y n g : Nat} {sz : Nat → Nat} {tm : Nat → Nat → Nat} {Q : hp_S → Prop}
def lr_Bd (n : Nat) (sz : Nat → Nat) (tm : Nat → Nat → Nat) (g x c : Nat) : Prop := if g = 0 then ∃ hd : Nat → Nat, (∀ v, v < n → hd v ≤ sz v ∧ (∀ i, i < hd v → tm v i < x) ∧ ∀ i, hd v ≤ i → i < sz v → x ≤ tm v i) ∧ c ≤ gt_sum hd n else x ≤ c * g ∧ c * g < x + g
theorem lr_bd (ho : sp_ok n sz tm) (hn : n ≤ 5) (hg : g = 0 ∨ 10 ≤ g ∧ g ≤ 500) {l : Int} (hl : sp_last n sz tm l) (x c : Nat) (hx : (x : Int) ≤ l) (hb : lr_Bd n sz tm g x c) : (sp_isM n sz tm g x → c < 120 ∧ lr_Bd n sz tm g (x + 1) (c + 1)) ∧ (¬ sp_isM n sz tm g x → lr_Bd n sz tm g (x + 1) c) := by
  unfold lr_Bd sp_isM at *
  by_cases h0 : g = 0
  · simp only [h0, if_true] at *
    obtain ⟨hd, h1, h2⟩ := hb
    refine ⟨fun hM => ?_, fun hM => ⟨hd, fun v hv => ⟨(h1 v hv).1, fun i hi => by have := (h1 v hv).2.1 i hi; omega, fun i q1 q2 => ?_⟩, h2⟩⟩
    · obtain ⟨v0, hv0, i0, hi0, e0⟩ := hM
      generalize hh : (fun v => if hd v < sz v ∧ tm v (hd v) = x then hd v + 1 else hd v) = hd'
      have k0 : ∀ v, hd' v = if hd v < sz v ∧ tm v (hd v) = x then hd v + 1 else hd v := fun v => by rw [← hh]
      have hle : ∀ v, v < n → hd' v ≤ sz v := fun v hv => by
        rw [k0]
        have := (h1 v hv).1
        split <;> omega
      have hinc : hd v0 < hd' v0 := by
        obtain ⟨a1, a2, a3⟩ := h1 v0 hv0
        have b1 : hd v0 ≤ i0 := by
          rcases Nat.lt_or_ge i0 (hd v0) with q | q
          · have := a2 i0 q
            omega
          · exact q
        have b2 := a3 (hd v0) (Nat.le_refl _) (by omega)
        have b3 : tm v0 (hd v0) = x := by
          rcases Nat.lt_or_ge (hd v0) i0 with q | q
          · have := (ho v0 hv0).2.2 (hd v0) i0 q hi0
            omega
          · have : hd v0 = i0 := by omega
            rw [this]
            exact e0
        rw [k0, if_pos ⟨by omega, b3⟩]
        omega
      have s1 : gt_sum hd n < gt_sum hd' n := gt_sum_lt n (fun v hv => by rw [k0]; split <;> omega) ⟨v0, hv0, hinc⟩
      have s2 := gt_sum_bd (m := 24) n (fun v hv => Nat.le_trans (hle v hv) (ho v hv).1)
      refine ⟨by omega, hd', fun v hv => ⟨hle v hv, fun i hi => ?_, fun i q1 q2 => ?_⟩, by omega⟩
      · obtain ⟨a1, a2, a3⟩ := h1 v hv
        rcases Nat.lt_or_ge i (hd v) with q | q
        · have := a2 i q
          omega
        · rw [k0] at hi
          by_cases hc : hd v < sz v ∧ tm v (hd v) = x
          · rw [if_pos hc] at hi
            have : i = hd v := by omega
            rw [this, hc.2]
            omega
          · rw [if_neg hc] at hi
            omega
      · obtain ⟨a1, a2, a3⟩ := h1 v hv
        rw [k0] at q1
        by_cases hc : hd v < sz v ∧ tm v (hd v) = x
        · rw [if_pos hc] at q1
          have := (ho v hv).2.2 (hd v) i (by omega) q2
          omega
        · rw [if_neg hc] at q1
          have b1 := a3 i q1 q2
          rcases Nat.lt_or_ge x (tm v i) with q | q
          · exact q
          · exfalso
            rcases Nat.lt_or_ge (hd v) i with q' | q'
            · have b2 := (ho v hv).2.2 (hd v) i q' q2
              have b3 := a3 (hd v) (Nat.le_refl _) (by omega)
              omega
            · have : i = hd v := by omega
              subst this
              exact hc ⟨q2, by omega⟩
    · have b1 := (h1 v hv).2.2 i q1 q2
      rcases Nat.lt_or_ge x (tm v i) with q | q
      · exact q
      · exact absurd ⟨v, hv, i, q2, by omega⟩ hM
  · simp only [h0, if_false] at hb ⊢
    have hg1 : 10 ≤ g := by omega
    have hiff : sp_isG n sz tm g x ↔ x % g = 0 := by
      refine ⟨fun h => h.1, fun h => ⟨h, ?_⟩⟩
      obtain ⟨l1, l2, l3, l4⟩ := hl
      rcases l4 with q | ⟨v, hv, hs, q⟩
      · omega
      · exact ⟨v, hv, hs, by omega⟩
    have hx1 : x < 1000 := by have := hl.2.1; omega
    rw [hiff]
    refine ⟨fun hM => ?_, fun hM => ⟨?_, by omega⟩⟩
    · have e1 : x / g * g = x := Nat.div_mul_cancel (Nat.dvd_of_mod_eq_zero hM)
      have e2 : c = x / g := by
        rcases Nat.lt_trichotomy c (x / g) with q | q | q
        · have : (c + 1) * g ≤ x / g * g := Nat.mul_le_mul_right _ q
          rw [Nat.succ_mul] at this
          omega
        · exact q
        · have : (x / g + 1) * g ≤ c * g := Nat.mul_le_mul_right _ q
          rw [Nat.succ_mul] at this
          omega
      have e3 : c * g = x := by rw [e2]; exact e1
      have e4 : c < 120 := by
        rcases Nat.lt_or_ge c 120 with q | q
        · exact q
        · have : 120 * 10 ≤ c * g := Nat.mul_le_mul q hg1
          omega
      refine ⟨e4, ?_, ?_⟩
      · rw [Nat.succ_mul]
        omega
      · rw [Nat.succ_mul]
        omega
    · rcases Nat.lt_or_ge x (c * g) with q | q
      · exact q
      · have : x = c * g := by omega
        exact absurd (by rw [this]; exact Nat.mul_mod_left _ _) hM
theorem lr_bd0 (hg : g = 0 ∨ 10 ≤ g ∧ g ≤ 500) : lr_Bd n sz tm g 0 0 := by
  unfold lr_Bd
  split
  · exact ⟨fun _ => 0, fun v hv => ⟨Nat.zero_le _, fun i hi => absurd hi (Nat.not_lt_zero _), fun i _ _ => Nat.zero_le _⟩, Nat.zero_le _⟩
  · omega
theorem lr_bdc (ho : sp_ok n sz tm) (hn : n ≤ 5) (hg : g = 0 ∨ 10 ≤ g ∧ g ≤ 500) {x c : Nat} (hx : x ≤ 1000) (hb : lr_Bd n sz tm g x c) : c ≤ 120 := by
  unfold lr_Bd at hb
  by_cases h0 : g = 0
  · rw [if_pos h0] at hb
    obtain ⟨hd, h1, h2⟩ := hb
    have := gt_sum_bd (m := 24) n (fun v hv => Nat.le_trans (h1 v hv).1 (ho v hv).1)
    omega
  · rw [if_neg h0] at hb
    rcases Nat.lt_or_ge 120 c with q | q
    · have h1 : 121 * 10 ≤ 121 * g := Nat.mul_le_mul_left _ (by omega)
      have h2 : 121 * g ≤ c * g := Nat.mul_le_mul_right _ q
      have h3 : 121 * g = 120 * g + g := by omega
      have : 120 * 10 ≤ 120 * g := Nat.mul_le_mul_left _ (by omega)
      omega
    · exact q
/-- which event of voice v stands at a time x: k of them are not later -/
def sp_ev (S : Nat → Int32) (sz : Nat → Nat) (tm : Nat → Nat → Nat) (v x : Nat) (e : Int32) : Prop := ∃ k, k ≤ sz v ∧ (∀ i, i < k → tm v i ≤ x) ∧ (∀ i, k ≤ i → i < sz v → x < tm v i) ∧ e = if k = 0 ∨ S (24 * v + (k - 1)) = -1 then -1 else nI (24 * v + (k - 1))
/-- what learn() leaves -/
def lr_Post (K : Nat → Nat × Nat) (I : Nat → Nat → Int32) (R : Nat → Nat → Option Nat) (N y n : Nat) (sz : Nat → Nat) (tm : Nat → Nat → Nat) (g : Nat) (z : hp_S) : Prop := ∃ (J : Nat → Nat → Int32) (c : Nat) (T : Nat → Nat), z = (K, J, R, N) ∧ (∀ b, b ≠ y → b ≠ y + 12 → b ≠ y + 13 → J b = I b) ∧ (∀ k, k ≠ 16 → J y k = I y k) ∧ J y 16 = nI c ∧ c ≤ 120 ∧ (∀ j, j < c → J (y + 12) j = nI (T j) ∧ T j < 1000) ∧ sp_M (sp_isM n sz tm g) c T ∧ ∀ v, v < n → ∀ m, m < c → sp_ev (I (y + 3)) sz tm v (T m) (J (y + 13) (120 * v + m))
/-- the events that are not later than a moment -/
theorem lr_while {J : Nat → Nat → Int32} (hY : sp_Y K R y) (hE : sp_YE J y n sz tm) (ho : sp_ok n sz tm) (hn : n ≤ 5) {v m x : Nat} (hv : v < n) (hm : m < 120) (hx : J (y + 12) m = nI x) (hx2 : x < 1000) (kk : Int32 → Int32 → Int32 → hp_S → Option hp_S)
    (hk : ∀ k, k ≤ sz v → (∀ i, i < k → tm v i ≤ x) → (∀ i, k ≤ i → i < sz v → x < tm v i) → pu_ok (kk (nI v) (nI k) (nI m) (K, J, R, N)) Q) : ∀ (d k : Nat), k ≤ sz v → sz v - k < d → (∀ i, i < k → tm v i ≤ x) → pu_ok (f_X7_learn_L226 fu y kk d (nI v) (nI k) (nI m) (K, J, R, N)) Q := by
  intro d
  induction d with
  | zero => intro k h1 h2; omega
  | succ d ih =>
    intro k h1 h2 h3
    obtain ⟨e1, e2⟩ := hE.2 v hv
    obtain ⟨o1, o2, o3⟩ := ho v hv
    simp only [f_X7_learn_L226, pu_gr hY.k hY.f1.1, pu_gr hY.k hY.f2.1, pu_gr hY.k hY.f17.1, Option.bind_some, pu_li hY.f1.2 (show v < 5 by omega) (by decide), e1, ho_id, nI_1]
    by_cases hc : sz v ≤ k
    · rw [if_pos (nI_le hc (by omega))]
      exact hk k h1 h3 (fun i q1 q2 => by omega)
    · rw [if_neg (nI_ge (by omega) (by omega)), lr_ix, pu_li hY.f2.2 (by omega) (by decide), e2 k (by omega), pu_li hY.f17.2 hm (by decide), hx]
      simp only [Option.bind_some]
      by_cases hc2 : x < tm v k
      · rw [if_pos (nI_lt hc2 (by have := o2 k (by omega); omega))]
        refine hk k h1 h3 (fun i q1 q2 => ?_)
        rcases Nat.lt_or_ge k i with q | q
        · have := o3 k i q q2
          omega
        · have : i = k := by omega
          rw [this]
          exact hc2
      · rw [if_neg (nI_nlt (by omega) (by omega))]
        refine ih (k + 1) (by omega) (by omega) (fun i hi => ?_)
        rcases Nat.lt_or_ge i k with q | q
        · exact h3 i q
        · have : i = k := by omega
          rw [this]
          omega
end LR3
