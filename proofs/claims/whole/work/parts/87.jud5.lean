/-! the class judges: all voices of a pair -/
section XU
variable {K : Nat → Nat × Nat} {I I0 : Nat → Nat → Int32} {R : Nat → Nat → Option Nat} {N fu j n jm m : Nat} {rb : Int32} {ky : Int} {c1 c2 : Nat} {X Y : Nat → Option nt_T} {S0 : Nat → Nat → Prop} {Cv Cv' : Nat → Nat → Nat → Prop} {z : hp_S} {a b : Nat}
theorem nt_go_no {o p : Option nt_T} (h : nt_go o p = false) : nt_way o p = 0 ∧ nt_mv o p = false := by
  cases o with
  | none => exact ⟨rfl, rfl⟩
  | some q => cases p with
    | none => exact ⟨rfl, rfl⟩
    | some r => exact absurd h (by simp [nt_go])
theorem nt_go_yes {o p : Option nt_T} (h : nt_go o p = true) : ∃ q r, o = some q ∧ p = some r := by
  cases o with
  | none => exact absurd h (by simp [nt_go])
  | some q => cases p with
    | none => exact absurd h (by simp [nt_go])
    | some r => exact ⟨q, r, rfl, rfl⟩
theorem nt_mv_go {o p : Option nt_T} (h : nt_mv o p = true) : ∃ q r, o = some q ∧ p = some r := by
  cases o with
  | none => exact absurd h (by simp [nt_mv])
  | some q => cases p with
    | none => exact absurd h (by simp [nt_mv])
    | some r => exact ⟨q, r, rfl, rfl⟩
theorem nt_pr_g {k : Nat} (hk : k ≠ 7 ∧ k ≠ 8 ∧ k ≠ 10 ∧ k ≠ 11) (h : nt_go (X a) (Y a) = false ∨ nt_go (X b) (Y b) = false) : nt_pr n ky k a b X Y = false := by
  have hw : nt_way (X a) (Y a) * nt_way (X b) (Y b) = 0 := by
    rcases h with h | h
    · rw [(nt_go_no h).1, Int.zero_mul]
    · rw [(nt_go_no h).1, Int.mul_zero]
  unfold nt_pr
  split <;> simp at hk <;> simp [hw]
  rcases h with h | h <;> simp [h]
theorem nt_pr_m {k : Nat} (hk : k = 7 ∨ k = 8 ∨ k = 10) (h : nt_mv (X a) (Y a) = false) : nt_pr n ky k a a X Y = false := by
  have e1 : nt_lp (X a) (Y a) = false := by
    cases hx : X a with
    | none => rfl
    | some q => cases hy : Y a with
      | none => rfl
      | some r =>
        rw [hx, hy] at h
        simp [nt_lp, h]
  have e2 : nt_as ky (X a) (Y a) = false := by
    cases hx : X a with
    | none => rfl
    | some q => cases hy : Y a with
      | none => rfl
      | some r =>
        rw [hx, hy] at h
        simp [nt_as, h]
  have e3 : nt_sv (X 0) (X a) (Y a) = false := by
    cases h0 : X 0 with
    | none => rfl
    | some p => cases hx : X a with
      | none => rfl
      | some q => cases hy : Y a with
        | none => rfl
        | some r =>
          rw [hx, hy] at h
          simp [nt_sv, h]
  rcases hk with rfl | rfl | rfl
  · simp [nt_pr, e1]
  · simp [nt_pr, e2]
  · simp [nt_pr, e3]
/-- what a kind needs -/
theorem nt_pr_kd {k a b : Nat} (hn2 : 2 ≤ n) (hk : k < 14) (h : nt_pr n ky k a b X Y = true) : ((k = 7 ∨ k = 8 ∨ k = 10) ∧ a = b) ∨ k = 11 ∨ ((k ≠ 7 ∧ k ≠ 8 ∧ k ≠ 10 ∧ k ≠ 11) ∧ a < b) := by
  have hq := nt_pr_ab hk h
  have hm : nt_mk k = false := by
    cases hm : nt_mk k
    · rfl
    · rw [nt_pr_mk hm] at h
      exact absurd h (by decide)
  rcases kc_14 hk with rfl | rfl | rfl | rfl | rfl | rfl | rfl | rfl | rfl | rfl | rfl | rfl | rfl | rfl <;> simp [nt_ab] at hq ⊢ <;> first | omega | exact absurd hm (by decide)
theorem xu_cross (h : xj K I0 R j n jm m rb ky c1 c2 X Y) (ha : a < n) {kk : Int32 → hp_S → Option hp_S} {P : hp_S → Prop} (hkk : ∀ z, xz K R N I0 j n jm S0 m rb (fun k a b => nt_pr n ky k a b X Y) (fun _ a' _ => a' < a + 1) z → pu_ok (kk (nI a) z) P) : ∀ (s w b : Nat) (z : hp_S), b + s = n → s < w → xz K R N I0 j n jm S0 m rb (fun k a b => nt_pr n ky k a b X Y) (fun k' a' b' => a' < a ∨ (a' = a ∧ (k' ≠ 11 ∨ b' < b))) z → pu_ok (f_X3_lookAtPair_L65 fu j kk w (nI a) (nI b) z) P := by
  intro s
  induction s with
  | zero =>
    intro w b z h1 h2 hz
    obtain ⟨w, rfl⟩ : ∃ w', w = w' + 1 := ⟨w - 1, by omega⟩
    obtain ⟨I1, rfl, z1, z2⟩ := id hz
    obtain ⟨⟨e1, -⟩, -, -, ⟨-, e2, -⟩, -, -, ⟨-, h5⟩, -⟩ := h.keep z1
    simp only [f_X3_lookAtPair_L65, pu_gi e1, e2, Option.bind_some]
    rw [if_pos (nI_le (show n ≤ b by omega) (by omega))]
    exact hkk _ (xz_free hz (fun k' a' b' _ _ hb' _ => by omega))
  | succ s ih =>
    intro w b z h1 h2 hz
    obtain ⟨w, rfl⟩ : ∃ w', w = w' + 1 := ⟨w - 1, by omega⟩
    obtain ⟨I1, rfl, z1, z2⟩ := id hz
    have hJ := h.keep z1
    obtain ⟨⟨e1, -⟩, -, -, ⟨-, e2, -⟩, -, -, ⟨-, h5⟩, -⟩ := id hJ
    have hb : b < n := by omega
    have h97 : ∀ v : Bool, v = nt_pr n ky 11 a b X Y → pu_ok (f_X3_lookAtPair_B97 fu j (f_X3_lookAtPair_L65 fu j kk w) kk (nI a) (nI b) (bI v) (nI b) (nI a) 11 j (K, I1, R, N)) P := by
      intro v hv
      simp only [f_X3_lookAtPair_B97, pu_is e1, Option.bind_some, ho_id, nI_1]
      refine pu_bind (pu_mono (xb (k := 11) h hz (by decide) ha hb hv) (fun z' hz' => ?_))
      exact ih w (b + 1) z' (by omega) (by omega) (xz_free hz' (fun k' a' b' _ _ hb' _ => by omega))
    simp only [f_X3_lookAtPair_L65, f_X3_lookAtPair_B96, pu_gi e1, e2, Option.bind_some, pu_is e1, xq_cross hJ ha hb, bI_ite, nn_eq (show a < 100 by omega) (show b < 100 by omega)]
    rw [if_neg (nI_ge hb (by omega))]
    by_cases hab : a = b
    · rw [if_pos hab]
      exact h97 false (by simp [nt_pr, hab])
    · rw [if_neg hab]
      have hq : nt_pr n ky 11 a b X Y = nt_cr (X a) (Y b) (Y a) := by
        show (decide (a ≠ b) && nt_cr (X a) (Y b) (Y a)) = _
        rw [decide_eq_true hab, Bool.true_and]
      cases hv : nt_cr (X a) (Y b) (Y a) with
      | false =>
        rw [if_neg (by decide)]
        exact h97 false (by rw [hq, hv])
      | true =>
        rw [if_pos rfl]
        exact h97 true (by rw [hq, hv])
theorem xu_two (h : xj K I0 R j n jm m rb ky c1 c2 X Y) (ha : a < n) {kk : Int32 → hp_S → Option hp_S} {P : hp_S → Prop} (hkk : ∀ z, xz K R N I0 j n jm S0 m rb (fun k a b => nt_pr n ky k a b X Y) (fun k' a' b' => a' < a ∨ (a' = a ∧ (k' ≠ 11 ∨ b' < 0))) z → pu_ok (kk (nI a) z) P) : ∀ (s w b : Nat) (z : hp_S), b + s = n → s < w → a < b → xz K R N I0 j n jm S0 m rb (fun k a b => nt_pr n ky k a b X Y) (fun k' a' b' => a' < a ∨ (a' = a ∧ ((k' = 7 ∨ k' = 8 ∨ k' = 10) ∨ (k' ≠ 11 ∧ b' < b)))) z → pu_ok (f_X3_lookAtPair_L27 fu j kk w (nI a) (nI b) z) P := by
  intro s
  induction s with
  | zero =>
    intro w b z h1 h2 hab hz
    obtain ⟨w, rfl⟩ : ∃ w', w = w' + 1 := ⟨w - 1, by omega⟩
    obtain ⟨I1, rfl, z1, z2⟩ := id hz
    obtain ⟨⟨e1, -⟩, -, -, ⟨-, e2, -⟩, -, -, ⟨-, h5⟩, -⟩ := h.keep z1
    simp only [f_X3_lookAtPair_L27, pu_gi e1, e2, Option.bind_some]
    rw [if_pos (nI_le (show n ≤ b by omega) (by omega))]
    exact hkk _ (xz_free hz (fun k' a' b' _ _ hb' _ => by omega))
  | succ s ih =>
    intro w b z h1 h2 hab hz
    obtain ⟨w, rfl⟩ : ∃ w', w = w' + 1 := ⟨w - 1, by omega⟩
    obtain ⟨I1, rfl, z1, z2⟩ := id hz
    have hJ := h.keep z1
    obtain ⟨⟨e1, -⟩, -, -, ⟨-, e2, -⟩, -, -, ⟨hn2, h5⟩, -⟩ := id hJ
    have hb : b < n := by omega
    simp only [f_X3_lookAtPair_L27, f_X3_lookAtPair_B57, pu_gi e1, e2, Option.bind_some, pu_is e1, xq_goes hJ ha, xq_goes hJ hb, bI_ite, ho_id, nI_1]
    rw [if_neg (nI_ge hb (by omega))]
    have hno : (nt_go (X a) (Y a) = false ∨ nt_go (X b) (Y b) = false) → pu_ok (f_X3_lookAtPair_L27 fu j kk w (nI a) (nI (b + 1)) (K, I1, R, N)) P := by
      intro hg
      refine ih w (b + 1) _ (by omega) (by omega) (by omega) (xz_free hz (fun k' a' b' hk' _ hb' hQ => ?_))
      have hkd := nt_pr_kd hn2 hk' hQ
      have : ¬ (a' = a ∧ b' = b ∧ (k' ≠ 7 ∧ k' ≠ 8 ∧ k' ≠ 10 ∧ k' ≠ 11)) := by
        rintro ⟨rfl, rfl, w3⟩
        have := nt_pr_g (n := n) (ky := ky) w3 hg
        rw [this] at hQ
        exact absurd hQ (by decide)
      omega
    cases hga : nt_go (X a) (Y a) with
    | false =>
      rw [if_neg (by decide)]
      exact hno (Or.inl hga)
    | true =>
      rw [if_pos rfl]
      cases hgb : nt_go (X b) (Y b) with
      | false =>
        rw [if_neg (by decide)]
        exact hno (Or.inr hgb)
      | true =>
        rw [if_pos rfl]
        obtain ⟨p1, p2, o1, o2⟩ := nt_go_yes hga
        obtain ⟨p3, p4, o3, o4⟩ := nt_go_yes hgb
        refine pu_bind (pu_mono (xt h hb hab o1 o2 o3 o4 hz) (fun z' hz' => ?_))
        refine ih w (b + 1) _ (by omega) (by omega) (by omega) (xz_free hz' (fun k' a' b' hk' _ hb' hQ => ?_))
        have hkd := nt_pr_kd hn2 hk' hQ
        have hm : nt_mk k' = false := by
          cases hm : nt_mk k'
          · rfl
          · rw [nt_pr_mk hm] at hQ
            exact absurd hQ (by decide)
        have hks : k' ≠ 3 ∧ k' ≠ 5 ∧ k' ≠ 6 ∧ k' ≠ 9 ∧ k' ≠ 13 := by
          simp [nt_mk] at hm
          omega
        omega
theorem xu (h : xj K I0 R j n jm m rb ky c1 c2 X Y) (hfu : 20 ≤ fu) : ∀ (s w a : Nat) (z : hp_S), a + s = n → s < w → xz K R N I0 j n jm S0 m rb (fun k a b => nt_pr n ky k a b X Y) (fun _ a' _ => a' < a) z → pu_ok (f_X3_lookAtPair_L2 fu j (f_X3_lookAtPair_B112 fu j) w (nI a) z) (xz K R N I0 j n jm S0 m rb (fun k a b => nt_pr n ky k a b X Y) (fun _ _ _ => True)) := by
  intro s
  induction s with
  | zero =>
    intro w a z h1 h2 hz
    obtain ⟨w, rfl⟩ : ∃ w', w = w' + 1 := ⟨w - 1, by omega⟩
    obtain ⟨I1, rfl, z1, z2⟩ := id hz
    obtain ⟨⟨e1, -⟩, -, -, ⟨-, e2, -⟩, -, -, ⟨-, h5⟩, -⟩ := h.keep z1
    simp only [f_X3_lookAtPair_L2, f_X3_lookAtPair_B112, pu_gi e1, e2, Option.bind_some]
    rw [if_pos (nI_le (show n ≤ a by omega) (by omega))]
    exact pu_some (xz_free hz (fun k' a' b' _ ha' hb' _ => ⟨fun _ => trivial, fun _ => by omega⟩))
  | succ s ih =>
    intro w a z h1 h2 hz
    obtain ⟨w, rfl⟩ : ∃ w', w = w' + 1 := ⟨w - 1, by omega⟩
    obtain ⟨I1, rfl, z1, z2⟩ := id hz
    have hJ := h.keep z1
    obtain ⟨⟨e1, -⟩, -, -, ⟨-, e2, -⟩, -, -, ⟨hn2, h5⟩, -⟩ := id hJ
    have ha : a < n := by omega
    simp only [f_X3_lookAtPair_L2, pu_gi e1, e2, Option.bind_some, pu_is e1, xq_moves hJ ha, bI_ite]
    rw [if_neg (nI_ge ha (by omega))]
    have h23 : ∀ z, xz K R N I0 j n jm S0 m rb (fun k a b => nt_pr n ky k a b X Y) (fun k' a' b' => a' < a ∨ (a' = a ∧ (k' = 7 ∨ k' = 8 ∨ k' = 10))) z → pu_ok (f_X3_lookAtPair_B23 fu j (f_X3_lookAtPair_L2 fu j (f_X3_lookAtPair_B112 fu j) w) (f_X3_lookAtPair_B112 fu j) (nI a) z) (xz K R N I0 j n jm S0 m rb (fun k a b => nt_pr n ky k a b X Y) (fun _ _ _ => True)) := by
      intro z hz
      simp only [f_X3_lookAtPair_B23, ho_id, Option.bind_some, nI_1]
      refine xu_two h ha (fun z' hz' => ?_) (n - (a + 1)) fu (a + 1) z (by omega) (by omega) (by omega) (xz_free hz (fun k' a' b' hk' _ _ hQ => ?_))
      · have key := xu_cross (fu := fu) (P := xz K R N I0 j n jm S0 m rb (fun k a b => nt_pr n ky k a b X Y) (fun _ _ _ => True)) (kk := f_X3_lookAtPair_B106 fu j (f_X3_lookAtPair_L2 fu j (f_X3_lookAtPair_B112 fu j) w) (f_X3_lookAtPair_B112 fu j)) h ha (fun z3 hz3 => by
          simp only [f_X3_lookAtPair_B106, ho_id, Option.bind_some, nI_1]
          exact ih w (a + 1) z3 (by omega) (by omega) hz3) n fu 0 z' (by omega) (by omega) hz'
        rw [nI_0] at key
        exact key
      · have hkd := nt_pr_kd hn2 hk' hQ
        omega
    cases hv : nt_mv (X a) (Y a) with
    | false =>
      rw [if_neg (by decide)]
      refine h23 _ (xz_free hz (fun k' a' b' hk' _ _ hQ => ?_))
      have hkd := nt_pr_kd hn2 hk' hQ
      have : ¬ (a' = a ∧ (k' = 7 ∨ k' = 8 ∨ k' = 10)) := by
        rintro ⟨rfl, w3⟩
        have hba : b' = a' := by omega
        subst hba
        have := nt_pr_m (n := n) (ky := ky) w3 hv
        rw [this] at hQ
        exact absurd hQ (by decide)
      omega
    | true =>
      rw [if_pos rfl]
      obtain ⟨p1, p2, o1, o2⟩ := nt_mv_go hv
      refine pu_bind (pu_mono (xv h ha o1 o2 hv hz) (fun z' hz' => ?_))
      refine h23 _ (xz_free hz' (fun k' a' b' hk' _ _ hQ => ?_))
      have hkd := nt_pr_kd hn2 hk' hQ
      omega
theorem xpair (h : xj K I0 R j n jm m rb ky c1 c2 X Y) (hfu : 20 ≤ fu) (hz : ∀ c, c < jm * 14 → ∀ b, rl_bit (I0 (j + 2) c) b = true ↔ S0 c b) : pu_ok (f_X3_lookAtPair fu j (K, I0, R, N)) (xz K R N I0 j n jm S0 m rb (fun k a b => nt_pr n ky k a b X Y) (fun _ _ _ => True)) := by
  obtain ⟨-, -, -, -, -, -, ⟨-, h5⟩, -⟩ := id h
  have key := xu (fu := fu) (N := N) (S0 := S0) h hfu n fu 0 (K, I0, R, N) (by omega) (by omega) ⟨I0, rfl, fun _ _ => rfl, fun c hc b => (hz c hc b).trans ⟨Or.inl, fun w => w.elim id (fun w => absurd w.2.2.2.1 (Nat.not_lt_zero _))⟩⟩
  rw [nI_0] at key
  exact key
end XU
