/-! the class judges: moments -/
section XM
variable {K : Nat → Nat × Nat} {I I0 : Nat → Nat → Int32} {R : Nat → Nat → Option Nat} {N fu j n jm m : Nat} {rb : Int32} {ky : Int} {c1 c2 : Nat} {X Y : Nat → Option nt_T} {S0 : Nat → Nat → Prop} {Cv Cv' : Nat → Nat → Nat → Prop} {z : hp_S} {low high : Nat → Int32}
theorem xi (h : xj K I0 R j n jm m rb ky c1 c2 X Y) (hz : xz K R N I0 j n jm S0 m rb (fun k a b => nt_mo ky low high k a b X Y) Cv z) {a b : Nat} (hb : b < n) (hab : a < b) {q r : nt_T} (hq : Y a = some q) (hr : Y b = some r) : pu_ok (f_X3_lookAtInterval fu j (nI a) (nI b) z) (xz K R N I0 j n jm S0 m rb (fun k a b => nt_mo ky low high k a b X Y) (fun k' a' b' => Cv k' a' b' ∨ (k' ≠ 6 ∧ a' = a ∧ b' = b))) := by
  have ha : a < n := by omega
  obtain ⟨I1, rfl, z1, z2⟩ := id hz
  have hJ := h.keep z1
  obtain ⟨⟨h1, h2, h3⟩, -, ⟨y1, y2, y3, -⟩, -, -, -, ⟨-, h5⟩, ox, oy, -⟩ := id hJ
  have b1 := nt_hb (oy a ha q hq)
  have b2 := nt_hb (oy b hb r hr)
  have hg : nt_go (Y a) (Y b) = true := by rw [hq, hr]; rfl
  have hu : nt_up (Y a) (Y b) = nt_h r - nt_h q := by rw [hq, hr]; rfl
  have q3 : nt_mo ky low high 3 a b X Y = decide (nt_h r - nt_h q < 0) := by simp only [nt_mo, hg, hu, decide_eq_true hab, Bool.true_and]
  have q9 : nt_mo ky low high 9 a b X Y = (nt_ld ky (Y a) && nt_ld ky (Y b)) := by simp only [nt_mo, decide_eq_true hab, Bool.true_and]
  simp only [f_X3_lookAtInterval, pu_gr h1 y1, pu_is y2.1, cx_up y2 y3 h5 ha hb hq hr, Option.bind_some]
  generalize hH : nt_h r - nt_h q = H at *
  have hH1 : -1000 ≤ H := by omega
  have hH2 : H ≤ 1000 := by omega
  have hgo : ∀ v : Bool, v = nt_mo ky low high 3 a b X Y → pu_ok (f_X3_lookAtInterval_B23 fu j (nI a) (nI b) (iI H) (bI v) (nI b) (nI a) 3 j (K, I1, R, N)) (xz K R N I0 j n jm S0 m rb (fun k a b => nt_mo ky low high k a b X Y) (fun k' a' b' => Cv k' a' b' ∨ (k' ≠ 6 ∧ a' = a ∧ b' = b))) := by
    intro v hv
    simp only [f_X3_lookAtInterval_B23, pu_is h1, Option.bind_some]
    refine pu_bind (pu_mono (xb (k := 3) h hz (by decide) ha hb hv) ?_)
    intro z' hz'
    obtain ⟨I2, rfl, w1, w2⟩ := id hz'
    have hJ2 := h.keep w1
    simp only [pu_gr h1 y1, pu_is h1, xq_lead2 hJ2 ha, xq_lead2 hJ2 hb, Option.bind_some, bI_ite, f_X3_lookAtInterval_B59]
    have hgo2 : ∀ v : Bool, v = nt_mo ky low high 9 a b X Y → pu_ok (f_X3_lookAtInterval_B60 fu j (nI a) (nI b) (iI H) (bI v) (nI b) (nI a) 9 j (K, I2, R, N)) (xz K R N I0 j n jm S0 m rb (fun k a b => nt_mo ky low high k a b X Y) (fun k' a' b' => Cv k' a' b' ∨ (k' ≠ 6 ∧ a' = a ∧ b' = b))) := by
      intro v hv
      simp only [f_X3_lookAtInterval_B60, pu_is h1, Option.bind_some]
      refine pu_bind (pu_mono (xb (k := 9) h hz' (by decide) ha hb hv) ?_)
      intro z'' hz''
      obtain ⟨I3, rfl, u1, u2⟩ := id hz''
      simp only [nI_1, f_X3_lookAtInterval_B114]
      by_cases hba : b = a + 1
      · rw [if_pos (by rw [hba])]
        have q5 : nt_mo ky low high 5 a b X Y = decide ((if a = 0 then 19 else 12) < H) := by simp only [nt_mo, hg, hu, decide_eq_true hba, Bool.true_and]
        have q13 : nt_mo ky low high 13 a b X Y = decide (H = 0) := by simp only [nt_mo, hg, hu, decide_eq_true hba, Bool.true_and]
        have hgo3 : ∀ v : Bool, v = nt_mo ky low high 5 a b X Y → pu_ok (f_X3_lookAtInterval_B94 fu j (nI a) (nI b) (iI H) (bI v) (nI b) (nI a) 5 j (K, I3, R, N)) (xz K R N I0 j n jm S0 m rb (fun k a b => nt_mo ky low high k a b X Y) (fun k' a' b' => Cv k' a' b' ∨ (k' ≠ 6 ∧ a' = a ∧ b' = b))) := by
          intro v hv
          simp only [f_X3_lookAtInterval_B94, pu_is h1, Option.bind_some]
          refine pu_bind (pu_mono (xb (k := 5) h hz'' (by decide) ha hb hv) ?_)
          intro z3 hz3
          obtain ⟨I4, rfl, t1, t2⟩ := id hz3
          have hgo4 : ∀ v : Bool, v = nt_mo ky low high 13 a b X Y → pu_ok (f_X3_lookAtInterval_B111 fu j (nI a) (nI b) (bI v) (nI b) (nI a) 13 j (K, I4, R, N)) (xz K R N I0 j n jm S0 m rb (fun k a b => nt_mo ky low high k a b X Y) (fun k' a' b' => Cv k' a' b' ∨ (k' ≠ 6 ∧ a' = a ∧ b' = b))) := by
            intro v hv
            simp only [f_X3_lookAtInterval_B111, f_X3_lookAtInterval_B114, pu_is h1, Option.bind_some]
            refine pu_bind (pu_mono (xb (k := 13) h hz3 (by decide) ha hb hv) ?_)
            intro z4 hz4
            refine pu_some (xz_free hz4 (fun k' a' b' hk' ha' hb' hQ => ?_))
            have hmk : nt_mk k' = true := by
              cases hm : nt_mk k'
              · rw [nt_mo_mk hm hk'] at hQ
                exact absurd hQ (by decide)
              · rfl
            have hks : k' = 3 ∨ k' = 5 ∨ k' = 6 ∨ k' = 9 ∨ k' = 13 := by
              simp [nt_mk] at hmk
              omega
            constructor
            · rintro ((((w | w) | w) | w) | w)
              · exact Or.inl w
              · exact Or.inr ⟨by omega, w.2⟩
              · exact Or.inr ⟨by omega, w.2⟩
              · exact Or.inr ⟨by omega, w.2⟩
              · exact Or.inr ⟨by omega, w.2⟩
            · rintro (w | ⟨w1, w2⟩)
              · exact Or.inl (Or.inl (Or.inl (Or.inl w)))
              · rcases hks with e | e | e | e | e
                · exact Or.inl (Or.inl (Or.inl (Or.inr ⟨e, w2⟩)))
                · exact Or.inl (Or.inr ⟨e, w2⟩)
                · exact absurd e w1
                · exact Or.inl (Or.inl (Or.inr ⟨e, w2⟩))
                · exact Or.inr ⟨e, w2⟩
          simp only [il_eq hH1 hH2, show (0 : Int32).toInt = 0 from rfl]
          by_cases h0 : H = 0
          · rw [if_pos h0]
            exact hgo4 true (by rw [q13, decide_eq_true h0])
          · rw [if_neg h0]
            exact hgo4 false (by rw [q13, decide_eq_false h0])
        simp only [f_X3_lookAtInterval_B86, il_le hH1 hH2, nn_eq0 (show a < 100 by omega), show (19 : Int32).toInt = 19 from rfl, show (12 : Int32).toInt = 12 from rfl]
        by_cases ha0 : a = 0
        · rw [if_pos ha0]
          rw [if_pos ha0] at q5
          by_cases hc : H ≤ 19
          · rw [if_pos hc]
            exact hgo3 false (by rw [q5, decide_eq_false (by omega)])
          · rw [if_neg hc]
            exact hgo3 true (by rw [q5, decide_eq_true (by omega)])
        · rw [if_neg ha0]
          rw [if_neg ha0] at q5
          by_cases hc : H ≤ 12
          · rw [if_pos hc]
            exact hgo3 false (by rw [q5, decide_eq_false (by omega)])
          · rw [if_neg hc]
            exact hgo3 true (by rw [q5, decide_eq_true (by omega)])
      · rw [if_neg (fun w => hba ((nI_eq (by omega) (by omega)).mp w))]
        refine pu_some (xz_free hz'' (fun k' a' b' hk' ha' hb' hQ => ?_))
        have hmk : nt_mk k' = true := by
          cases hm : nt_mk k'
          · rw [nt_mo_mk hm hk'] at hQ
            exact absurd hQ (by decide)
          · rfl
        have hks : k' = 3 ∨ k' = 5 ∨ k' = 6 ∨ k' = 9 ∨ k' = 13 := by
          simp [nt_mk] at hmk
          omega
        have hab := nt_mo_ab (n := n) hk' hQ
        constructor
        · rintro ((w | w) | w)
          · exact Or.inl w
          · exact Or.inr ⟨by omega, w.2⟩
          · exact Or.inr ⟨by omega, w.2⟩
        · rintro (w | ⟨w1, w2⟩)
          · exact Or.inl (Or.inl w)
          · rcases hks with e | e | e | e | e
            · exact Or.inl (Or.inr ⟨e, w2⟩)
            · subst e
              simp [nt_ab] at hab
              omega
            · exact absurd e w1
            · exact Or.inr ⟨e, w2⟩
            · subst e
              simp [nt_ab] at hab
              omega
    cases hl : nt_ld ky (Y a) with
    | false =>
      rw [if_neg (by decide)]
      exact hgo2 false (by rw [q9, hl]; rfl)
    | true =>
      rw [if_pos rfl]
      cases hl2 : nt_ld ky (Y b) with
      | false =>
        rw [if_neg (by decide)]
        exact hgo2 false (by rw [q9, hl, hl2]; rfl)
      | true =>
        rw [if_pos rfl]
        exact hgo2 true (by rw [q9, hl, hl2]; rfl)
  simp only [li_le hH1 hH2, show (0 : Int32).toInt = 0 from rfl]
  by_cases hc : 0 ≤ H
  · rw [if_pos hc]
    exact hgo false (by rw [q3, decide_eq_false (by omega)])
  · rw [if_neg hc]
    exact hgo true (by rw [q3, decide_eq_true (by omega)])
theorem nt_mo_no {k a b : Nat} (h : Y a = none) : nt_mo ky low high k a b X Y = false := by
  unfold nt_mo
  split <;> simp [h, nt_go, nt_ld]
theorem nt_mo_no2 {k a b : Nat} (h : Y b = none) (hk : k ≠ 6) : nt_mo ky low high k a b X Y = false := by
  have hg : nt_go (Y a) none = false := by cases Y a <;> rfl
  unfold nt_mo
  split <;> simp [h, hg, nt_ld] at *
/-- the other voices of a moment -/
theorem xm_b (h : xj K I0 R j n jm m rb ky c1 c2 X Y) {a1 a : Nat} (ha : a < n) {q : nt_T} (hq : Y a = some q) {kk : Int32 → hp_S → Option hp_S} {P : hp_S → Prop} (hkk : ∀ z, xz K R N I0 j n jm S0 m rb (fun k a b => nt_mo ky low high k a b X Y) (fun _ a' _ => a' < a + 1) z → pu_ok (kk (nI a) z) P) : ∀ (s w b : Nat) (z : hp_S), b + s = n → s < w → a < b → xz K R N I0 j n jm S0 m rb (fun k a b => nt_mo ky low high k a b X Y) (fun k' a' b' => a' < a ∨ (a' = a ∧ (k' = 6 ∨ b' < b))) z → pu_ok (f_X3_lookAtMoment_L83 fu j a1 kk w (nI a) (nI b) z) P := by
  intro s
  induction s with
  | zero =>
    intro w b z h1 h2 h3 hz
    obtain ⟨w, rfl⟩ : ∃ w', w = w' + 1 := ⟨w - 1, by omega⟩
    obtain ⟨I1, rfl, z1, z2⟩ := id hz
    obtain ⟨⟨e1, -⟩, -, -, ⟨-, e2, -⟩, -, -, ⟨-, h5⟩, -⟩ := h.keep z1
    simp only [f_X3_lookAtMoment_L83, pu_gi e1, e2, Option.bind_some]
    rw [if_pos (nI_le (show n ≤ b by omega) (by omega))]
    exact hkk _ (xz_free hz (fun k' a' b' _ _ hb' _ => by omega))
  | succ s ih =>
    intro w b z h1 h2 h3 hz
    obtain ⟨w, rfl⟩ : ∃ w', w = w' + 1 := ⟨w - 1, by omega⟩
    obtain ⟨I1, rfl, z1, z2⟩ := id hz
    have hJ := h.keep z1
    obtain ⟨⟨e1, -⟩, -, ⟨y1, y2, y3, -⟩, ⟨-, e2, -⟩, -, -, ⟨-, h5⟩, -⟩ := id hJ
    have hb : b < n := by omega
    simp only [f_X3_lookAtMoment_L83, f_X3_lookAtMoment_B112, pu_gi e1, e2, Option.bind_some, pu_gr e1 y1, pu_gr y2.1 y2.2.1, cx_s y2 (show b < 5 by omega), cx_so y3 hb, bI_ite, ho_id, nI_1, pu_is e1]
    rw [if_neg (nI_ge hb (by omega))]
    cases hr : Y b with
    | none =>
      rw [if_neg (by decide)]
      refine ih w (b + 1) _ (by omega) (by omega) (by omega) (xz_free hz (fun k' a' b' _ _ hb' hQ => ?_))
      have : ¬ (b' = b ∧ k' ≠ 6) := fun ⟨w1, w2⟩ => by
        subst w1
        rw [nt_mo_no2 hr w2] at hQ
        exact absurd hQ (by decide)
      omega
    | some r =>
      rw [if_pos (by rfl)]
      refine pu_bind (pu_mono (xi h hz hb h3 hq hr) (fun z' hz' => ?_))
      refine ih w (b + 1) _ (by omega) (by omega) (by omega) (xz_free hz' (fun k' a' b' _ _ hb' hQ => ?_))
      omega
theorem xm (h : xj K I0 R j n jm m rb ky c1 c2 X Y) {x a1 : Nat} (hA : sp_A K R a1 n (fun v => x + 4 * v)) (hlh : ∀ v, v < n → I0 (x + 4 * v) 4 = low v ∧ I0 (x + 4 * v) 5 = high v) (hx : ∀ v, v < n → x + 4 * v < j) (hfu : 20 ≤ fu) : ∀ (s w a : Nat) (z : hp_S), a + s = n → s < w → xz K R N I0 j n jm S0 m rb (fun k a b => nt_mo ky low high k a b X Y) (fun _ a' _ => a' < a) z → pu_ok (f_X3_lookAtMoment_L2 fu j a1 (f_X3_lookAtMoment_B124 fu j a1) w (nI a) z) (xz K R N I0 j n jm S0 m rb (fun k a b => nt_mo ky low high k a b X Y) (fun _ _ _ => True)) := by
  intro s
  induction s with
  | zero =>
    intro w a z h1 h2 hz
    obtain ⟨w, rfl⟩ : ∃ w', w = w' + 1 := ⟨w - 1, by omega⟩
    obtain ⟨I1, rfl, z1, z2⟩ := id hz
    obtain ⟨⟨e1, -⟩, -, -, ⟨-, e2, -⟩, -, -, ⟨-, h5⟩, -⟩ := h.keep z1
    simp only [f_X3_lookAtMoment_L2, f_X3_lookAtMoment_B124, pu_gi e1, e2, Option.bind_some]
    rw [if_pos (nI_le (show n ≤ a by omega) (by omega))]
    exact pu_some (xz_free hz (fun k' a' b' _ ha' hb' _ => ⟨fun _ => trivial, fun _ => by omega⟩))
  | succ s ih =>
    intro w a z h1 h2 hz
    obtain ⟨w, rfl⟩ : ∃ w', w = w' + 1 := ⟨w - 1, by omega⟩
    obtain ⟨I1, rfl, z1, z2⟩ := id hz
    have hJ := h.keep z1
    obtain ⟨⟨e1, -⟩, ⟨x1, x2, x3, -⟩, ⟨y1, y2, y3, -⟩, ⟨-, e2, -⟩, -, -, ⟨hn2, h5⟩, -⟩ := id hJ
    have ha : a < n := by omega
    have nx : ∀ z, xz K R N I0 j n jm S0 m rb (fun k a b => nt_mo ky low high k a b X Y) (fun _ a' _ => a' < a + 1) z → pu_ok (f_X3_lookAtMoment_B118 fu j a1 (f_X3_lookAtMoment_L2 fu j a1 (f_X3_lookAtMoment_B124 fu j a1) w) (f_X3_lookAtMoment_B124 fu j a1) (nI a) z) (xz K R N I0 j n jm S0 m rb (fun k a b => nt_mo ky low high k a b X Y) (fun _ _ _ => True)) := by
      intro z hz
      simp only [f_X3_lookAtMoment_B118, ho_id, Option.bind_some, nI_1]
      exact ih w (a + 1) z (by omega) (by omega) hz
    simp only [f_X3_lookAtMoment_L2, pu_gi e1, e2, Option.bind_some, pu_gr e1 y1, pu_gr y2.1 y2.2.1, cx_s y2 (show a < 5 by omega), cx_so y3 ha, bI_ite, pu_is e1, xq_goes hJ ha, xq_moves hJ ha, f_X3_lookAtMoment_B38]
    rw [if_neg (nI_ge ha (by omega))]
    cases hq : Y a with
    | none =>
      rw [if_neg (by decide)]
      refine nx _ (xz_free hz (fun k' a' b' _ _ hb' hQ => ?_))
      have : a' ≠ a := fun w1 => by
        subst w1
        rw [nt_mo_no hq] at hQ
        exact absurd hQ (by decide)
      omega
    | some q =>
      rw [if_pos (by rfl)]
      have h75 : ∀ v : Bool, v = nt_mo ky low high 6 a a X Y → pu_ok (f_X3_lookAtMoment_B75 fu j a1 (f_X3_lookAtMoment_L2 fu j a1 (f_X3_lookAtMoment_B124 fu j a1) w) (f_X3_lookAtMoment_B124 fu j a1) (nI a) (bI v) (nI a) 6 j (K, I1, R, N)) (xz K R N I0 j n jm S0 m rb (fun k a b => nt_mo ky low high k a b X Y) (fun _ _ _ => True)) := by
        intro v hv
        simp only [f_X3_lookAtMoment_B75, pu_is e1, Option.bind_some, ho_id, nI_1]
        refine pu_bind (pu_mono (xa (k := 6) h hz (by decide) ha hv) (fun z' hz' => ?_))
        refine xm_b h ha hq nx (n - (a + 1)) fu (a + 1) z' (by omega) (by omega) (by omega) (xz_free hz' (fun k' a' b' hk' ha' hb' hQ => ?_))
        have hab := nt_mo_ab (n := n) hk' hQ
        obtain ⟨p1, p2⟩ := nt_ab_al hn2 hk' hab
        by_cases hk6 : k' = 6
        · have := p1 (by rw [hk6]; rfl)
          omega
        · have hmk : nt_mk k' = true := by
            cases hm : nt_mk k'
            · rw [nt_mo_mk hm hk'] at hQ
              exact absurd hQ (by decide)
            · rfl
          have hlt : a' < b' := by
            have hks : k' = 3 ∨ k' = 5 ∨ k' = 6 ∨ k' = 9 ∨ k' = 13 := by
              simp [nt_mk] at hmk
              omega
            rcases hks with e | e | e | e | e
            · subst e
              simpa [nt_ab] using hab
            · subst e
              simp [nt_ab] at hab
              omega
            · exact absurd e hk6
            · subst e
              simpa [nt_ab] using hab
            · subst e
              simp [nt_ab] at hab
              omega
          omega
      obtain ⟨hr, hp⟩ := hA.2.2 a ha
      obtain ⟨l1, l2⟩ := hlh a ha
      have l1' : I1 (x + 4 * a) 4 = low a := by rw [z1 _ (by have := hx a ha; omega)]; exact l1
      have l2' : I1 (x + 4 * a) 5 = high a := by rw [z1 _ (by have := hx a ha; omega)]; exact l2
      obtain ⟨q1, q2, q3, q4⟩ := (y3 a ha).2 q hq
      have hlr : ho_lr 4 a1 (nI a) (K, I1, R, N) = some (x + 4 * a) := pu_lr hA.1 ha (by omega) hr
      have h43 : ∀ v : Bool, (v = match X a with | some p => decide (p.1 ≠ q.1 ∨ p.2 ≠ q.2) | none => true) → pu_ok (f_X3_lookAtMoment_B43 fu j a1 (f_X3_lookAtMoment_L2 fu j a1 (f_X3_lookAtMoment_B124 fu j a1) w) (f_X3_lookAtMoment_B124 fu j a1) (nI a) (bI v) (K, I1, R, N)) (xz K R N I0 j n jm S0 m rb (fun k a b => nt_mo ky low high k a b X Y) (fun _ _ _ => True)) := by
        intro v hv
        have hQ : nt_mo ky low high 6 a a X Y = (v && decide (¬ (low a ≤ iI (nt_h q) ∧ iI (nt_h q) ≤ high a))) := by
          simp only [nt_mo, hq, decide_true, Bool.true_and]
          rw [hv]
          cases X a <;> rfl
        simp only [f_X3_lookAtMoment_B43, f_X3_lookAtMoment_B74, bI_ite, hlr, pu_gr e1 y1, pu_gr y2.1 y2.2.2.2.2.1, cx_h y2 (show a < 5 by omega), q4, pu_is hp.1, ht_out hp, l1', l2', Option.bind_some]
        cases v with
        | false =>
          rw [if_neg (by decide)]
          exact h75 false (by rw [hQ]; rfl)
        | true =>
          rw [if_pos rfl]
          by_cases hc : low a ≤ iI (nt_h q) ∧ iI (nt_h q) ≤ high a
          · rw [if_pos hc, if_pos rfl]
            exact h75 false (by rw [hQ, decide_eq_false (fun w => w hc)]; rfl)
          · rw [if_neg hc, if_neg (by decide)]
            exact h75 true (by rw [hQ, decide_eq_true hc]; rfl)
      cases hp : X a with
      | none =>
        rw [if_neg (by simp [nt_go])]
        exact h43 true (by rw [hp])
      | some p =>
        rw [if_pos (by rfl)]
        cases hv : nt_mv (some p) (some q) with
        | false =>
          rw [if_neg (by decide)]
          exact h43 false (by rw [hp]; exact hv.symm)
        | true =>
          rw [if_pos rfl]
          exact h43 true (by rw [hp]; exact hv.symm)
end XM
