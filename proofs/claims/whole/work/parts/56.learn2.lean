section LR2
variable {K : Nat → Nat × Nat} {I : Nat → Nat → Int32} {R : Nat → Nat → Option Nat} {N fu y n g : Nat} {sz : Nat → Nat} {tm : Nat → Nat → Nat} {Q : hp_S → Prop}
/-- the last time of all -/
def sp_last (n : Nat) (sz : Nat → Nat) (tm : Nat → Nat → Nat) (l : Int) : Prop := -1 ≤ l ∧ l < 1000 ∧ (∀ v, v < n → 0 < sz v → (tm v (sz v - 1) : Int) ≤ l) ∧ (l = -1 ∨ ∃ v, v < n ∧ 0 < sz v ∧ l = (tm v (sz v - 1) : Int))
theorem lr_last (hY : sp_Y K R y) (hE : sp_YE I y n sz tm) (ho : sp_ok n sz tm) (hn : n ≤ 5) (kk : Int32 → hp_S → Option hp_S) (hk : ∀ l, sp_last n sz tm l → pu_ok (kk (iI l) (K, I, R, N)) Q) : ∀ (m v : Nat) (l : Int), v ≤ n → n - v < m → sp_last v sz tm l → pu_ok (f_X7_learn_L9 fu y kk m (iI l) (nI v) (K, I, R, N)) Q := by
  intro m
  induction m with
  | zero => intro v l h1 h2; omega
  | succ m ih =>
    intro v l h1 h2 hl
    simp only [f_X7_learn_L9, f_X7_learn_B48, f_X7_learn_B59, pu_gi hY.k, Option.bind_some, hE.1, pu_gr hY.k hY.f1.1, pu_gr hY.k hY.f2.1, ho_id]
    by_cases hc : n ≤ v
    · rw [if_pos (nI_le hc (by omega))]
      have : v = n := by omega
      subst this
      exact hk l hl
    · rw [if_neg (nI_ge (by omega) (by omega))]
      obtain ⟨e1, e2⟩ := hE.2 v (by omega)
      obtain ⟨o1, o2, -⟩ := ho v (by omega)
      obtain ⟨l1, l2, l3, l4⟩ := hl
      rw [pu_li hY.f1.2 (show v < 5 by omega) (by decide), e1]
      simp only [Option.bind_some, nI_1]
      cases hs : sz v with
      | zero =>
        rw [if_pos nI_0, if_pos ((show (-1 : Int32) = iI (-1) from rfl) ▸ (iI_le (by omega) (by omega) (by omega) (by omega)).mpr l1)]
        refine ih (v + 1) l (by omega) (by omega) ⟨l1, l2, fun u hu h => ?_, l4.imp id (fun ⟨u, q1, q2⟩ => ⟨u, by omega, q2⟩)⟩
        rcases Nat.lt_or_ge u v with q | q
        · exact l3 u q h
        · have : u = v := by omega
          subst this
          omega
      | succ k =>
        have hk' : sz v - 1 = k := by omega
        rw [if_neg (nI_ne0 (by omega) (by omega)), lr_ix1, pu_li hY.f2.2 (by omega) (by decide), e2 k (by omega), iI_nat (tm v k)]
        simp only [Option.bind_some]
        have t1 := o2 k (by omega)
        by_cases hm : (tm v k : Int) ≤ l
        · rw [if_pos ((iI_le (by omega) (by omega) (by omega) (by omega)).mpr hm)]
          refine ih (v + 1) l (by omega) (by omega) ⟨l1, l2, fun u hu h => ?_, l4.imp id (fun ⟨u, q1, q2⟩ => ⟨u, by omega, q2⟩)⟩
          rcases Nat.lt_or_ge u v with q | q
          · exact l3 u q h
          · have : u = v := by omega
            subst this
            rw [hk']
            exact hm
        · rw [if_neg (fun q => hm ((iI_le (by omega) (by omega) (by omega) (by omega)).mp q))]
          refine ih (v + 1) _ (by omega) (by omega) ⟨by omega, by omega, fun u hu h => ?_, Or.inr ⟨v, by omega, by omega, by rw [hk']⟩⟩
          rcases Nat.lt_or_ge u v with q | q
          · have := l3 u q h
            omega
          · have : u = v := by omega
            subst this
            rw [hk']
            exact Int.le_refl _
/-- what stands when the times below x have been looked at -/
def lr_Inv (I J : Nat → Nat → Int32) (y : Nat) (M : Nat → Prop) (x c : Nat) (T : Nat → Nat) : Prop := (∀ b, b ≠ y → b ≠ y + 12 → J b = I b) ∧ (∀ k, k ≠ 16 → J y k = I y k) ∧ J y 16 = nI c ∧ (∀ j, j < c → J (y + 12) j = nI (T j) ∧ T j < x) ∧ (∀ i j, i < j → j < c → T i < T j) ∧ ∀ u, u < x → (M u ↔ ∃ j, j < c ∧ T j = u)
theorem lr_YE {J : Nat → Nat → Int32} (hE : sp_YE I y n sz tm) (h1 : ∀ b, b ≠ y → b ≠ y + 12 → J b = I b) (h2 : ∀ k, k ≠ 16 → J y k = I y k) : sp_YE J y n sz tm :=
  ⟨by rw [h2 0 (by decide)]; exact hE.1, fun v hv => by rw [h1 _ (by omega) (by omega), h1 _ (by omega) (by omega)]; exact hE.2 v hv⟩
theorem lr_skip {J : Nat → Nat → Int32} (hY : sp_Y K R y) (hg : J y 9 = nI g) (h0 : 0 < g) (hg2 : g < 2 ^ 31) {w1 w2 b : Int32} {kk : Int32 → Int32 → Int32 → hp_S → Option hp_S} {m : Nat} (hm : 0 < m) (h : pu_ok (kk w1 w2 b (K, J, R, N)) Q) : pu_ok (f_X7_learn_L98 fu y kk m w1 w2 b 0 (K, J, R, N)) Q := by
  cases m with
  | zero => omega
  | succ m =>
    simp only [f_X7_learn_L98, pu_gi hY.k, Option.bind_some, hg]
    rw [if_neg (nI_ne0 h0 hg2)]
    split <;> exact h
set_option maxHeartbeats 1000000 in
theorem lr_scan (hY : sp_Y K R y) (hE : sp_YE I y n sz tm) (ho : sp_ok n sz tm) (hn : n ≤ 5) (hg : I y 9 = nI g) (hgb : g ≤ 500) {l : Int} (hl : sp_last n sz tm l) (hfu : 30 ≤ fu) (kk : hp_S → Option hp_S) (Bd : Nat → Nat → Prop)
    (hB : ∀ x c : Nat, (x : Int) ≤ l → Bd x c → (sp_isM n sz tm g x → c < 120 ∧ Bd (x + 1) (c + 1)) ∧ (¬ sp_isM n sz tm g x → Bd (x + 1) c))
    (hk : ∀ (J : Nat → Nat → Int32) (x c : Nat) (T : Nat → Nat), lr_Inv I J y (sp_isM n sz tm g) x c T → Bd x c → l < (x : Int) → pu_ok (kk (K, J, R, N)) Q) :
    ∀ (m x c : Nat) (T : Nat → Nat) (J : Nat → Nat → Int32), lr_Inv I J y (sp_isM n sz tm g) x c T → Bd x c → (x : Int) ≤ l + 1 → l + 1 - (x : Int) < (m : Int) → pu_ok (f_X7_learn_L68 fu y kk m (iI l) (nI x) (K, J, R, N)) Q := by
  intro m
  induction m with
  | zero => intro x c T J h1 h2 h3 h4; omega
  | succ m ih =>
    intro x c T J hI hBd h3 h4
    have hl' := hl
    obtain ⟨l1, l2, l3, l4⟩ := hl'
    obtain ⟨i1, i2, i3, i4, i5, i6⟩ := id hI
    simp only [f_X7_learn_L68]
    by_cases hc : l < (x : Int)
    · rw [if_pos (by rw [iI_nat]; exact (iI_lt (by omega) (by omega) (by omega) (by omega)).mpr hc)]
      exact hk J x c T hI hBd hc
    · rw [if_neg (by rw [iI_nat]; exact fun q => hc ((iI_lt (by omega) (by omega) (by omega) (by omega)).mp q))]
      have hJg : J y 9 = nI g := by rw [i2 9 (by decide)]; exact hg
      simp only [pu_gi hY.k, Option.bind_some, hJg]
      -- behind the flag
      have hflag : ∀ b : Int32, (b = 1 ∧ sp_isM n sz tm g x) ∨ (b = 0 ∧ ¬ sp_isM n sz tm g x) → pu_ok (f_X7_learn_B172 fu y (f_X7_learn_L68 fu y kk m) kk (iI l) (nI x) b (K, J, R, N)) Q := by
        intro b hb
        simp only [f_X7_learn_B172, f_X7_learn_B196, ho_id, Option.bind_some, nI_1]
        rcases hb with ⟨rfl, hM⟩ | ⟨rfl, hM⟩
        · obtain ⟨c1, c2⟩ := (hB x c (by omega) hBd).1 hM
          rw [if_neg (by decide)]
          simp only [pu_gr hY.k hY.f17.1, pu_gi hY.k, Option.bind_some, i3, pu_si hY.f17.2 c1 (by decide), pu_pi hY.k]
          have r1 : hp_set J (y + 12) c (nI x) y 16 = nI c := by rw [pu_set_row _ _ _ _ (by omega)]; exact i3
          rw [r1, nI_1]
          refine ih (x + 1) (c + 1) (fun j => if j = c then x else T j) _ ⟨fun b q1 q2 => ?_, fun k hk2 => ?_, by rw [pu_set_at], fun j hj => ?_, fun i j hij hj => ?_, fun u hu => ?_⟩ c2 (by omega) (by omega)
          · rw [pu_set_row _ _ _ _ q1, pu_set_row _ _ _ _ q2]
            exact i1 b q1 q2
          · rw [pu_set_off _ _ _ _ hk2, pu_set_row _ _ _ _ (by omega)]
            exact i2 k hk2
          · rw [pu_set_row _ _ _ _ (by omega), pu_set]
            simp only [if_true]
            by_cases hj' : j = c
            · rw [if_pos hj', if_pos hj']
              exact ⟨rfl, by omega⟩
            · rw [if_neg hj', if_neg hj']
              have := i4 j (by omega)
              exact ⟨this.1, by omega⟩
          · simp only
            by_cases hj' : j = c
            · rw [if_neg (by omega), if_pos hj']
              exact (i4 i (by omega)).2
            · rw [if_neg (by omega), if_neg hj']
              exact i5 i j hij (by omega)
          · rcases Nat.lt_or_ge u x with q | q
            · rw [i6 u q]
              refine ⟨fun ⟨j, j1, j2⟩ => ⟨j, by omega, by simp only; rw [if_neg (by omega)]; exact j2⟩, fun ⟨j, j1, j2⟩ => ?_⟩
              simp only at j2
              by_cases hj' : j = c
              · rw [if_pos hj'] at j2
                omega
              · rw [if_neg hj'] at j2
                exact ⟨j, by omega, j2⟩
            · have : u = x := by omega
              subst this
              exact ⟨fun _ => ⟨c, by omega, by simp⟩, fun _ => hM⟩
        · rw [if_pos rfl]
          refine ih (x + 1) c T J ⟨i1, i2, i3, fun j hj => ⟨(i4 j hj).1, by have := (i4 j hj).2; omega⟩, i5, fun u hu => ?_⟩ ((hB x c (by omega) hBd).2 hM) (by omega) (by omega)
          rcases Nat.lt_or_ge u x with q | q
          · exact i6 u q
          · have : u = x := by omega
            subst this
            refine ⟨fun q => absurd q hM, fun ⟨j, j1, j2⟩ => ?_⟩
            have := (i4 j j1).2
            omega
      have hEJ := lr_YE hE i1 i2
      by_cases h0 : g = 0
      · subst h0
        rw [if_pos (by rw [nI_0]; exact Int32.le_refl _)]
        simp only [f_X7_learn_B93, f_X7_learn_B94]
        have e0 : (0 : Int32) = nI 0 := nI_0.symm
        refine (show pu_ok (f_X7_learn_L98 fu y _ fu (iI l) (nI x) 0 (nI 0) (K, J, R, N)) Q from lr_any hY hEJ ho hn (by rw [hJg, nI_0]) hfu (by omega) (iI l) _ fu 0 0 (Nat.zero_le _) (by omega) (Or.inr ⟨rfl, fun u hu => absurd hu (by omega)⟩) (fun b hb => hflag b ?_))
        unfold sp_isM
        simp only [if_true]
        exact hb
      · rw [if_neg (nI_nle (by omega) (by omega))]
        have hx2 : x < 2 ^ 31 := by omega
        have hrm : ho_rm (nI x) (nI g) = some (nI (x % g)) := by
          unfold ho_rm
          rw [if_neg (nI_ne0 (by omega) (by omega)), pk_rem hx2 (by omega) (by omega)]
        have hMx : sp_isM n sz tm g x ↔ x % g = 0 := by
          unfold sp_isM
          rw [if_neg h0]
          refine ⟨fun h => h.1, fun h => ⟨h, ?_⟩⟩
          rcases l4 with q | ⟨v, hv, hs, q⟩
          · omega
          · exact ⟨v, hv, hs, by omega⟩
        rw [hrm]
        simp only [Option.bind_some, f_X7_learn_B93, f_X7_learn_B94]
        by_cases hz : x % g = 0
        · rw [if_pos (by rw [hz, nI_0])]
          exact lr_skip hY hJg (by omega) (by omega) (by omega) (hflag 1 (Or.inl ⟨rfl, hMx.mpr hz⟩))
        · rw [if_neg (nI_ne0 (by omega) (by have := Nat.mod_lt x (show 0 < g by omega); omega))]
          exact lr_skip hY hJg (by omega) (by omega) (by omega) (hflag 0 (Or.inr ⟨rfl, fun q => hz (hMx.mp q)⟩))
end LR2
