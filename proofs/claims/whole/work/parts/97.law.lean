/-! the law's loop -/
theorem n_is {y : Nat} {z : hp_S} (h : (z.1 y).1 ≠ 10) : ho_is 7 y z = none := by unfold ho_is; rw [if_neg h]
theorem n_gi {y k : Nat} {z : hp_S} (h : (z.1 y).1 ≠ 10) : ho_gi 7 y k z = none := by unfold ho_gi; rw [if_neg h]
theorem n_gr {y k : Nat} {z : hp_S} (h : (z.1 y).1 ≠ 10) : ho_gr 7 y k z = none := by unfold ho_gr; rw [if_neg h]
theorem n_pi {y k : Nat} {v : Int32} {z : hp_S} (h : (z.1 y).1 ≠ 10) : ho_pi 7 y k v z = none := by unfold ho_pi; rw [if_neg h]
theorem k_clear (fu y : Nat) (z : hp_S) (q : Int32 × hp_S) (h : (z.1 y).1 ≠ 10) (e : f_X7_clear fu y z = some q) : q.2 = z := by
  unfold f_X7_clear at e
  cases fu with
  | zero => cases e
  | succ w =>
    simp only [f_X7_clear_L4, n_gi h, Option.bind_none] at e
    cases e
theorem k_note (fu y : Nat) (x1 x2 x3 x4 : Int32) (z : hp_S) (q : Int32 × hp_S) (h : (z.1 y).1 ≠ 10) (e : f_X7_note fu y x1 x2 x3 x4 z = some q) : q.2 = z := by
  simp only [f_X7_note, n_is h, n_gi h, Option.bind_none] at e
  cases e
theorem k_rest (fu y : Nat) (x1 x2 : Int32) (z : hp_S) (q : Int32 × hp_S) (h : (z.1 y).1 ≠ 10) (e : f_X7_rest fu y x1 x2 z = some q) : q.2 = z := by
  simp only [f_X7_rest, n_is h, n_gi h, Option.bind_none] at e
  cases e
theorem k_take (fu y : Nat) (x1 : Int32) (z : hp_S) (q : Int32 × hp_S) (h : (z.1 y).1 ≠ 10) (e : f_X7_take fu y x1 z = some q) : q.2 = z := by
  simp only [f_X7_take, n_is h, n_gi h, Option.bind_none] at e
  cases e
theorem k_rule (fu y : Nat) (x1 x2 : Int32) (z : hp_S) (q : Int32 × hp_S) (h : (z.1 y).1 ≠ 10) (e : f_X7_rule fu y x1 x2 z = some q) : q.2 = z := by
  simp only [f_X7_rule, f_X7_rule_B19, in_y, Option.bind_some, n_gr h, Option.bind_none, in_ite] at e
  split at e
  · split at e
    · cases e
    · cases e
      rfl
  · cases e
    rfl
theorem k_style (fu y : Nat) (x1 : Int32) (z : hp_S) (q : Int32 × hp_S) (h : (z.1 y).1 ≠ 10) (e : f_X7_style fu y x1 z = some q) : q.2 = z := by
  simp only [f_X7_style, in_y, Option.bind_some, in_ite] at e
  split at e
  · cases fu with
    | zero => cases e
    | succ w =>
      have hb : ∀ ag kk w2 w3 w4 s0, f_X7_style_B82 (w + 1) y x1 ag kk w2 w3 w4 s0 z = none := fun ag kk w2 w3 w4 s0 => by simp only [f_X7_style_B82, n_gr h, Option.bind_none]
      have hc : ∀ ag kk w2 w3 s0, f_X7_style_B53 (w + 1) y x1 ag kk w2 w3 s0 z = none := fun ag kk w2 w3 s0 => by simp only [f_X7_style_B53, f_X7_style_B81, hb, ite_self]
      rw [f_X7_style_L16, if_neg (by decide), if_pos rfl] at e
      simp only [f_X7_style_B48, hc] at e
      cases e
  · cases e
    rfl
theorem k_key (fu y : Nat) (x1 : Int32) (z : hp_S) (q : Int32 × hp_S) (h : (z.1 y).1 ≠ 10) (e : f_X7_key fu y x1 z = some q) : q.2 = z := by
  simp only [f_X7_key, in_y, Option.bind_some, n_gi h, Option.bind_none, in_ite] at e
  split at e
  · cases e
  · cases e
    rfl
theorem k_range (fu y : Nat) (x1 x2 x3 : Int32) (z : hp_S) (q : Int32 × hp_S) (h : (z.1 y).1 ≠ 10) (e : f_X7_range fu y x1 x2 x3 z = some q) : q.2 = z := by
  simp only [f_X7_range, n_is h, n_gi h, Option.bind_none] at e
  cases e
theorem k_grid (fu y : Nat) (x1 : Int32) (z : hp_S) (q : Int32 × hp_S) (h : (z.1 y).1 ≠ 10) (e : f_X7_grid fu y x1 z = some q) : q.2 = z := by
  simp only [f_X7_grid, f_X7_grid_B19, in_y, Option.bind_some, n_pi h, Option.bind_none, in_ite] at e
  split at e
  · cases e
  · split at e
    · cases e
    · cases e
      rfl
theorem k_repeat (fu y : Nat) (x1 x2 : Int32) (z : hp_S) (q : Int32 × hp_S) (h : (z.1 y).1 ≠ 10) (e : f_X7_repeat fu y x1 x2 z = some q) : q.2 = z := by
  simp only [f_X7_repeat, f_X7_repeat_B24, in_y, Option.bind_some, n_gi h, Option.bind_none, in_ite] at e
  split at e
  · split at e
    · cases e
    · cases e
      rfl
  · cases e
    rfl
theorem k_except (fu y : Nat) (x1 x2 : Int32) (z : hp_S) (q : Int32 × hp_S) (h : (z.1 y).1 ≠ 10) (e : f_X7_except fu y x1 x2 z = some q) : q.2 = z := by
  simp only [f_X7_except, f_X7_except_B21, in_y, Option.bind_some, n_is h, Option.bind_none, in_ite] at e
  split at e
  · split at e
    · cases e
    · cases e
      rfl
  · cases e
    rfl
theorem k_judge (fu y : Nat) (z : hp_S) (q : Int32 × hp_S) (h : (z.1 y).1 ≠ 10) (e : f_X7_judge fu y z = some q) : q.2 = z := by
  simp only [f_X7_judge, n_is h, n_gi h, Option.bind_none] at e
  cases e
theorem k_fault (fu y : Nat) (x1 x2 : Int32) (z : hp_S) (q : Int32 × hp_S) (h : (z.1 y).1 ≠ 10) (e : f_X7_fault fu y x1 x2 z = some q) : q.2 = z := by
  simp only [f_X7_fault, n_is h, n_gi h, Option.bind_none] at e
  cases e
theorem k_count (fu y : Nat) (x1 : Int32) (z : hp_S) (q : Int32 × hp_S) (h : (z.1 y).1 ≠ 10) (e : f_X7_count fu y x1 z = some q) : q.2 = z := by
  simp only [f_X7_count, in_y, Option.bind_some, in_ite, n_gi h, Option.bind_none] at e
  split at e
  · split at e
    · cases fu with
      | zero => cases e
      | succ w =>
        simp only [f_X7_count_L41, n_gi h, Option.bind_none] at e
        cases e
    · split at e
      · cases e
      · cases e
  · cases e
    rfl
theorem k_moments (fu y : Nat) (z : hp_S) (q : Int32 × hp_S) (h : (z.1 y).1 ≠ 10) (e : f_X7_moments fu y z = some q) : q.2 = z := by
  simp only [f_X7_moments, n_is h, n_gi h, Option.bind_none] at e
  cases e
theorem k_time (fu y : Nat) (x1 : Int32) (z : hp_S) (q : Int32 × hp_S) (h : (z.1 y).1 ≠ 10) (e : f_X7_time fu y x1 z = some q) : q.2 = z := by
  simp only [f_X7_time, n_is h, n_gi h, Option.bind_none] at e
  cases e
theorem k_height (fu y : Nat) (x1 x2 : Int32) (z : hp_S) (q : Int32 × hp_S) (h : (z.1 y).1 ≠ 10) (e : f_X7_height fu y x1 x2 z = some q) : q.2 = z := by
  simp only [f_X7_height, n_is h, n_gi h, Option.bind_none] at e
  cases e
theorem k_interval (fu y : Nat) (x1 x2 x3 : Int32) (z : hp_S) (q : Int32 × hp_S) (h : (z.1 y).1 ≠ 10) (e : f_X7_interval fu y x1 x2 x3 z = some q) : q.2 = z := by
  simp only [f_X7_interval, n_is h, n_gi h, Option.bind_none] at e
  cases e
theorem k_event (fu y : Nat) (x1 x2 x3 : Int32) (z : hp_S) (q : Int32 × hp_S) (h : (z.1 y).1 ≠ 10) (e : f_X7_event fu y x1 x2 x3 z = some q) : q.2 = z := by
  simp only [f_X7_event, n_is h, n_gi h, Option.bind_none] at e
  cases e
theorem st_is {x y : Nat} {A : Option (Int32 × hp_S)} {B : hp_S → Option (Int32 × hp_S)} (hA : pu_ok A (fun r => pu_ok (B r.2) (fun q => r.1 = q.1 ∧ rl_V x y q.2))) (hB : ∀ z q, (z.1 y).1 ≠ 10 → B z = some q → q.2 = z) : ∃ v z1 z2, A = some (v, z1) ∧ ho_is 7 y z1 = some () ∧ B z1 = some (v, z2) ∧ rl_V x y z2 := by
  obtain ⟨⟨v, z1⟩, e1, ⟨v', z2⟩, e2, hv, hV⟩ := hA
  have hv' : v = v' := hv
  subst hv'
  refine ⟨v, z1, z2, e1, ?_, e2, hV⟩
  have hk : (z1.1 y).1 = 10 := by
    refine Classical.byContradiction (fun hn => ?_)
    have e : z2 = z1 := hB z1 (v, z2) hn e2
    obtain ⟨K, I, R, N, n, d, rb, ky, g, rc, rf, rt, xc, xk, xt, rfl, hW⟩ := hV
    rw [← e] at hn
    apply hn
    show (K y).1 = 10
    rw [hW.2.1.k]
  unfold ho_is
  rw [if_pos hk]
theorem lw_loop {fu L x y : Nat} {xs : Nat → Int32} (hfu : 12400 ≤ fu) (hL : L ≤ 2561) : ∀ (s w m : Nat) (z : hp_S), L ≤ m + 5 * s → s < w → m < 3000 → rl_V x y z → pu_ok (f_L_law_L28 fu L xs (f_L_law_B695 fu L xs) w x y (nI m) z) (fun q => q.1 = 1) := by
  intro s
  induction s with
  | zero =>
    intro w m z h1 h2 h3 hV
    obtain ⟨w, rfl⟩ : ∃ w', w = w' + 1 := ⟨w - 1, by omega⟩
    rw [f_L_law_L28]
    have hc : Int32.ofNat L - 5 < nI m := by
      rw [show Int32.ofNat L = nI L from rfl, iI_nat, iI_nat, show (5 : Int32) = iI 5 from rfl, iI_sub, iI_lt (by omega) (by omega) (by omega) (by omega)]
      omega
    rw [if_pos hc]
    exact pu_some rfl
  | succ s ih =>
    intro w m z h1 h2 h3 hV
    obtain ⟨w, rfl⟩ : ∃ w', w = w' + 1 := ⟨w - 1, by omega⟩
    rw [f_L_law_L28]
    have hcc : (Int32.ofNat L - 5 < nI m) ↔ L < m + 5 := by
      rw [show Int32.ofNat L = nI L from rfl, iI_nat, iI_nat, show (5 : Int32) = iI 5 from rfl, iI_sub, iI_lt (by omega) (by omega) (by omega) (by omega)]
      omega
    by_cases hc : L < m + 5
    · rw [if_pos (hcc.mpr hc)]
      exact pu_some rfl
    · rw [if_neg (fun q => hc (hcc.mp q))]
      have hx : ∀ k, k < L → ho_xl L xs (nI k) = some (xs k) := fun k hk => by
        unfold ho_xl
        rw [if_pos (nI_in hk (by omega)), nI_clamp (by omega)]
      have a1 : nI m + 1 = nI (m + 1) := nI_add m 1
      have a2 : nI m + 2 = nI (m + 2) := nI_add m 2
      have a3 : nI m + 3 = nI (m + 3) := nI_add m 3
      have a4 : nI m + 4 = nI (m + 4) := nI_add m 4
      have a5 : nI m + 5 = nI (m + 5) := nI_add m 5
      have x0 := hx m (by omega)
      have x1 := hx (m + 1) (by omega)
      have x2 := hx (m + 2) (by omega)
      have x3 := hx (m + 3) (by omega)
      have x4 := hx (m + 4) (by omega)
      have hag : ∀ z', rl_V x y z' → pu_ok (f_L_law_B689 fu L xs (f_L_law_L28 fu L xs (f_L_law_B695 fu L xs) w) (f_L_law_B695 fu L xs) x y (nI m) z') (fun q => q.1 = 1) := by
        intro z' hV'
        simp only [f_L_law_B689, ho_id, Option.bind_some, a5]
        exact ih w (m + 5) z' (by omega) (by omega) (by omega) hV'
      generalize f_L_law_B689 fu L xs (f_L_law_L28 fu L xs (f_L_law_B695 fu L xs) w) (f_L_law_B695 fu L xs) x y (nI m) = ag at hag ⊢
      clear ih
      have hV0 := hV
      obtain ⟨K, I, R, N, n, d, rb, ky, g, rc, rf, rt, xc, xk, xt, rfl, hW⟩ := hV
      have i6 : ho_is 6 x (K, I, R, N) = some () := pu_is hW.1.k
      rw [a1, a2, a3, a4, x0, x1, x2, x3, x4]
      simp only [Option.bind_some, ho_id, i6]
      generalize xs m &&& 31 = v
      by_cases h0 : v = 0
      · rw [if_pos h0]
        obtain ⟨r, z1, z2, e1, e2, e3, e4⟩ := st_is (B := fun z => f_X7_clear fu y  z) (op_clear (fu := fu) (N := N) hW (by omega)) (fun z q => k_clear fu y  z q)
        rw [e1, Option.bind_some]
        simp only [e2, Option.bind_some]
        have e3' : f_X7_clear fu y  z1 = some (r, z2) := e3
        rw [e3', Option.bind_some]
        simp only [if_true]
        exact hag z2 e4
      rw [if_neg h0]
      by_cases h1 : v = 1
      · rw [if_pos h1]
        obtain ⟨r, z1, z2, e1, e2, e3, e4⟩ := st_is (B := fun z => f_X7_note fu y (xs (m + 1)) (xs (m + 2)) (xs (m + 3)) (xs (m + 4)) z) (op_note (fu := fu) (N := N) hW (xs (m + 1)) (xs (m + 2)) (xs (m + 3)) (xs (m + 4)) (by omega)) (fun z q => k_note fu y (xs (m + 1)) (xs (m + 2)) (xs (m + 3)) (xs (m + 4)) z q)
        rw [e1, Option.bind_some]
        simp only [e2, Option.bind_some]
        have e3' : f_X7_note fu y (xs (m + 1)) (xs (m + 2)) (xs (m + 3)) (xs (m + 4)) z1 = some (r, z2) := e3
        rw [e3', Option.bind_some]
        simp only [if_true]
        exact hag z2 e4
      rw [if_neg h1]
      by_cases h2 : v = 2
      · rw [if_pos h2]
        obtain ⟨r, z1, z2, e1, e2, e3, e4⟩ := st_is (B := fun z => f_X7_rest fu y (xs (m + 1)) (xs (m + 2)) z) (op_rest (fu := fu) (N := N) hW (xs (m + 1)) (xs (m + 2)) (by omega)) (fun z q => k_rest fu y (xs (m + 1)) (xs (m + 2)) z q)
        rw [e1, Option.bind_some]
        simp only [e2, Option.bind_some]
        have e3' : f_X7_rest fu y (xs (m + 1)) (xs (m + 2)) z1 = some (r, z2) := e3
        rw [e3', Option.bind_some]
        simp only [if_true]
        exact hag z2 e4
      rw [if_neg h2]
      by_cases h3 : v = 3
      · rw [if_pos h3]
        obtain ⟨r, z1, z2, e1, e2, e3, e4⟩ := st_is (B := fun z => f_X7_take fu y (xs (m + 1)) z) (op_take (fu := fu) (N := N) hW (xs (m + 1)) (by omega)) (fun z q => k_take fu y (xs (m + 1)) z q)
        rw [e1, Option.bind_some]
        simp only [e2, Option.bind_some]
        have e3' : f_X7_take fu y (xs (m + 1)) z1 = some (r, z2) := e3
        rw [e3', Option.bind_some]
        simp only [if_true]
        exact hag z2 e4
      rw [if_neg h3]
      by_cases h4 : v = 4
      · rw [if_pos h4]
        obtain ⟨r, z1, z2, e1, e2, e3, e4⟩ := st_is (B := fun z => f_X7_rule fu y (xs (m + 1)) (xs (m + 2)) z) (op_rule (fu := fu) (N := N) hW (xs (m + 1)) (xs (m + 2))) (fun z q => k_rule fu y (xs (m + 1)) (xs (m + 2)) z q)
        rw [e1, Option.bind_some]
        simp only [e2, Option.bind_some]
        have e3' : f_X7_rule fu y (xs (m + 1)) (xs (m + 2)) z1 = some (r, z2) := e3
        rw [e3', Option.bind_some]
        simp only [if_true]
        exact hag z2 e4
      rw [if_neg h4]
      by_cases h5 : v = 5
      · rw [if_pos h5]
        obtain ⟨r, z1, z2, e1, e2, e3, e4⟩ := st_is (B := fun z => f_X7_style fu y (xs (m + 1)) z) (op_style (fu := fu) (N := N) hW (xs (m + 1)) (by omega)) (fun z q => k_style fu y (xs (m + 1)) z q)
        rw [e1, Option.bind_some]
        simp only [e2, Option.bind_some]
        have e3' : f_X7_style fu y (xs (m + 1)) z1 = some (r, z2) := e3
        rw [e3', Option.bind_some]
        simp only [if_true]
        exact hag z2 e4
      rw [if_neg h5]
      by_cases h6 : v = 6
      · rw [if_pos h6]
        obtain ⟨r, z1, z2, e1, e2, e3, e4⟩ := st_is (B := fun z => f_X7_key fu y (xs (m + 1)) z) (op_key (fu := fu) (N := N) hW (xs (m + 1))) (fun z q => k_key fu y (xs (m + 1)) z q)
        rw [e1, Option.bind_some]
        simp only [e2, Option.bind_some]
        have e3' : f_X7_key fu y (xs (m + 1)) z1 = some (r, z2) := e3
        rw [e3', Option.bind_some]
        simp only [if_true]
        exact hag z2 e4
      rw [if_neg h6]
      by_cases h7 : v = 7
      · rw [if_pos h7]
        obtain ⟨r, z1, z2, e1, e2, e3, e4⟩ := st_is (B := fun z => f_X7_range fu y (xs (m + 1)) (xs (m + 2)) (xs (m + 3)) z) (op_range (fu := fu) (N := N) hW (xs (m + 1)) (xs (m + 2)) (xs (m + 3)) (by omega)) (fun z q => k_range fu y (xs (m + 1)) (xs (m + 2)) (xs (m + 3)) z q)
        rw [e1, Option.bind_some]
        simp only [e2, Option.bind_some]
        have e3' : f_X7_range fu y (xs (m + 1)) (xs (m + 2)) (xs (m + 3)) z1 = some (r, z2) := e3
        rw [e3', Option.bind_some]
        simp only [if_true]
        exact hag z2 e4
      rw [if_neg h7]
      by_cases h8 : v = 8
      · rw [if_pos h8]
        obtain ⟨r, z1, z2, e1, e2, e3, e4⟩ := st_is (B := fun z => f_X7_grid fu y (xs (m + 1)) z) (op_grid (fu := fu) (N := N) hW (xs (m + 1)) (by omega)) (fun z q => k_grid fu y (xs (m + 1)) z q)
        rw [e1, Option.bind_some]
        simp only [e2, Option.bind_some]
        have e3' : f_X7_grid fu y (xs (m + 1)) z1 = some (r, z2) := e3
        rw [e3', Option.bind_some]
        simp only [if_true]
        exact hag z2 e4
      rw [if_neg h8]
      by_cases h9 : v = 9
      · rw [if_pos h9]
        obtain ⟨r, z1, z2, e1, e2, e3, e4⟩ := st_is (B := fun z => f_X7_repeat fu y (xs (m + 1)) (xs (m + 2)) z) (op_repeat (fu := fu) (N := N) hW (xs (m + 1)) (xs (m + 2))) (fun z q => k_repeat fu y (xs (m + 1)) (xs (m + 2)) z q)
        rw [e1, Option.bind_some]
        simp only [e2, Option.bind_some]
        have e3' : f_X7_repeat fu y (xs (m + 1)) (xs (m + 2)) z1 = some (r, z2) := e3
        rw [e3', Option.bind_some]
        simp only [if_true]
        exact hag z2 e4
      rw [if_neg h9]
      by_cases h10 : v = 10
      · rw [if_pos h10]
        obtain ⟨r, z1, z2, e1, e2, e3, e4⟩ := st_is (B := fun z => f_X7_except fu y (xs (m + 1)) (xs (m + 2)) z) (op_except (fu := fu) (N := N) hW (xs (m + 1)) (xs (m + 2)) (by omega)) (fun z q => k_except fu y (xs (m + 1)) (xs (m + 2)) z q)
        rw [e1, Option.bind_some]
        simp only [e2, Option.bind_some]
        have e3' : f_X7_except fu y (xs (m + 1)) (xs (m + 2)) z1 = some (r, z2) := e3
        rw [e3', Option.bind_some]
        simp only [if_true]
        exact hag z2 e4
      rw [if_neg h10]
      by_cases h11 : v = 11
      · rw [if_pos h11]
        obtain ⟨r, z1, z2, e1, e2, e3, e4⟩ := st_is (B := fun z => f_X7_judge fu y  z) (op_judge (fu := fu) (N := N) hW (by omega)) (fun z q => k_judge fu y  z q)
        rw [e1, Option.bind_some]
        simp only [e2, Option.bind_some]
        have e3' : f_X7_judge fu y  z1 = some (r, z2) := e3
        rw [e3', Option.bind_some]
        simp only [if_true]
        exact hag z2 e4
      rw [if_neg h11]
      by_cases h12 : v = 12
      · rw [if_pos h12]
        obtain ⟨r, z1, z2, e1, e2, e3, e4⟩ := st_is (B := fun z => f_X7_fault fu y (xs (m + 1)) (xs (m + 2)) z) (op_fault (fu := fu) (N := N) hW (xs (m + 1)) (xs (m + 2)) (by omega)) (fun z q => k_fault fu y (xs (m + 1)) (xs (m + 2)) z q)
        rw [e1, Option.bind_some]
        simp only [e2, Option.bind_some]
        have e3' : f_X7_fault fu y (xs (m + 1)) (xs (m + 2)) z1 = some (r, z2) := e3
        rw [e3', Option.bind_some]
        simp only [if_true]
        exact hag z2 e4
      rw [if_neg h12]
      by_cases h13 : v = 13
      · rw [if_pos h13]
        obtain ⟨r, z1, z2, e1, e2, e3, e4⟩ := st_is (B := fun z => f_X7_count fu y (xs (m + 1)) z) (op_count (fu := fu) (N := N) hW (xs (m + 1)) (by omega)) (fun z q => k_count fu y (xs (m + 1)) z q)
        rw [e1, Option.bind_some]
        simp only [e2, Option.bind_some]
        have e3' : f_X7_count fu y (xs (m + 1)) z1 = some (r, z2) := e3
        rw [e3', Option.bind_some]
        simp only [if_true]
        exact hag z2 e4
      rw [if_neg h13]
      by_cases h14 : v = 14
      · rw [if_pos h14]
        obtain ⟨r, z1, z2, e1, e2, e3, e4⟩ := st_is (B := fun z => f_X7_moments fu y  z) (op_moments (fu := fu) (N := N) hW (by omega)) (fun z q => k_moments fu y  z q)
        rw [e1, Option.bind_some]
        simp only [e2, Option.bind_some]
        have e3' : f_X7_moments fu y  z1 = some (r, z2) := e3
        rw [e3', Option.bind_some]
        simp only [if_true]
        exact hag z2 e4
      rw [if_neg h14]
      by_cases h15 : v = 15
      · rw [if_pos h15]
        obtain ⟨r, z1, z2, e1, e2, e3, e4⟩ := st_is (B := fun z => f_X7_time fu y (xs (m + 1)) z) (op_time (fu := fu) (N := N) hW (xs (m + 1)) (by omega)) (fun z q => k_time fu y (xs (m + 1)) z q)
        rw [e1, Option.bind_some]
        simp only [e2, Option.bind_some]
        have e3' : f_X7_time fu y (xs (m + 1)) z1 = some (r, z2) := e3
        rw [e3', Option.bind_some]
        simp only [if_true]
        exact hag z2 e4
      rw [if_neg h15]
      by_cases h16 : v = 16
      · rw [if_pos h16]
        obtain ⟨r, z1, z2, e1, e2, e3, e4⟩ := st_is (B := fun z => f_X7_height fu y (xs (m + 1)) (xs (m + 2)) z) (op_height (fu := fu) (N := N) hW (xs (m + 1)) (xs (m + 2)) (by omega)) (fun z q => k_height fu y (xs (m + 1)) (xs (m + 2)) z q)
        rw [e1, Option.bind_some]
        simp only [e2, Option.bind_some]
        have e3' : f_X7_height fu y (xs (m + 1)) (xs (m + 2)) z1 = some (r, z2) := e3
        rw [e3', Option.bind_some]
        simp only [if_true]
        exact hag z2 e4
      rw [if_neg h16]
      by_cases h17 : v = 17
      · rw [if_pos h17]
        obtain ⟨r, z1, z2, e1, e2, e3, e4⟩ := st_is (B := fun z => f_X7_interval fu y (xs (m + 1)) (xs (m + 2)) (xs (m + 3)) z) (op_interval (fu := fu) (N := N) hW (xs (m + 1)) (xs (m + 2)) (xs (m + 3)) (by omega)) (fun z q => k_interval fu y (xs (m + 1)) (xs (m + 2)) (xs (m + 3)) z q)
        rw [e1, Option.bind_some]
        simp only [e2, Option.bind_some]
        have e3' : f_X7_interval fu y (xs (m + 1)) (xs (m + 2)) (xs (m + 3)) z1 = some (r, z2) := e3
        rw [e3', Option.bind_some]
        simp only [if_true]
        exact hag z2 e4
      rw [if_neg h17]
      by_cases h18 : v = 18
      · rw [if_pos h18]
        obtain ⟨r, z1, z2, e1, e2, e3, e4⟩ := st_is (B := fun z => f_X7_event fu y (xs (m + 1)) (xs (m + 2)) (xs (m + 3)) z) (op_event (fu := fu) (N := N) hW (xs (m + 1)) (xs (m + 2)) (xs (m + 3))) (fun z q => k_event fu y (xs (m + 1)) (xs (m + 2)) (xs (m + 3)) z q)
        rw [e1, Option.bind_some]
        simp only [e2, Option.bind_some]
        have e3' : f_X7_event fu y (xs (m + 1)) (xs (m + 2)) (xs (m + 3)) z1 = some (r, z2) := e3
        rw [e3', Option.bind_some]
        simp only [if_true]
        exact hag z2 e4
      rw [if_neg h18]
      exact hag _ hV0
