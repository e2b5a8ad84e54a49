/-! ===== Int32 by its bits: bt x i ===== -/
def bt (x : Int32) (i : Nat) : Bool := x.toBitVec.getLsbD i
theorem b_ext {x y : Int32} (h : ∀ i, i < 32 → bt x i = bt y i) : x = y := Int32.toBitVec_inj.mp (BitVec.eq_of_getLsbD_eq (fun i hi => h i hi))
theorem b_or (x y : Int32) (i : Nat) : bt (x ||| y) i = (bt x i || bt y i) := by unfold bt; rw [Int32.toBitVec_or, BitVec.getLsbD_or]
theorem b_and (x y : Int32) (i : Nat) : bt (x &&& y) i = (bt x i && bt y i) := by unfold bt; rw [Int32.toBitVec_and, BitVec.getLsbD_and]
theorem b_xor (x y : Int32) (i : Nat) : bt (x ^^^ y) i = (bt x i ^^ bt y i) := by unfold bt; rw [Int32.toBitVec_xor, BitVec.getLsbD_xor]
theorem b_big {x : Int32} {i : Nat} (h : 32 ≤ i) : bt x i = false := BitVec.getLsbD_of_ge _ _ h
theorem b_m1 : ∀ i, i < 32 → bt (-1) i = true := by decide +kernel
theorem b_0 (i : Nat) : bt 0 i = false := BitVec.getLsbD_zero
theorem s_l : ∀ n, n < 32 → ((nI n &&& 31).toBitVec.smod 32).toNat = n := by decide +kernel
theorem s_u : ∀ n, n < 32 → (((nI n).toUInt32 &&& Int32.toUInt32 31).toBitVec % 32).toNat = n := by decide +kernel
theorem b_shl (n : Nat) (hn : n < 32) (x : Int32) {i : Nat} (hi : i < 32) : bt (x <<< (nI n &&& 31)) i = (decide (n ≤ i) && bt x (i - n)) := by
  unfold bt
  rw [Int32.toBitVec_shiftLeft]
  show (x.toBitVec <<< ((nI n &&& 31).toBitVec.smod 32).toNat).getLsbD i = _
  rw [s_l n hn, BitVec.getLsbD_shiftLeft]
  rcases Nat.lt_or_ge i n with h | h
  · simp [h, Nat.not_le.mpr h]
  · simp [hi, h, Nat.not_lt.mpr h]
theorem b_ushr (n : Nat) (hn : n < 32) (x : Int32) (i : Nat) : bt ((x.toUInt32 >>> ((nI n).toUInt32 &&& Int32.toUInt32 31)).toInt32) i = bt x (n + i) := by
  show (x.toUInt32 >>> ((nI n).toUInt32 &&& Int32.toUInt32 31)).toBitVec.getLsbD i = x.toUInt32.toBitVec.getLsbD (n + i)
  rw [UInt32.toBitVec_shiftRight]
  show (x.toUInt32.toBitVec >>> (((nI n).toUInt32 &&& Int32.toUInt32 31).toBitVec % 32).toNat).getLsbD i = _
  rw [s_u n hn, BitVec.getLsbD_ushiftRight]
theorem b_sshr (n : Nat) (hn : n < 32) (x : Int32) {i : Nat} (hi : i < 32) : bt (x >>> (nI n &&& 31)) i = if n + i < 32 then bt x (n + i) else bt x 31 := by
  unfold bt
  rw [Int32.toBitVec_shiftRight]
  show (x.toBitVec.sshiftRight ((nI n &&& 31).toBitVec.smod 32).toNat).getLsbD i = _
  rw [s_l n hn, BitVec.getLsbD_sshiftRight, BitVec.msb_eq_getLsbD_last]
  simp [hi]
theorem nl_0 : nI 0 = 0 := rfl
theorem nl_1 : nI 1 = 1 := rfl
theorem nl_2 : nI 2 = 2 := rfl
theorem nl_3 : nI 3 = 3 := rfl
theorem nl_4 : nI 4 = 4 := rfl
theorem nl_5 : nI 5 = 5 := rfl
theorem nl_6 : nI 6 = 6 := rfl
theorem nl_7 : nI 7 = 7 := rfl
theorem nl_8 : nI 8 = 8 := rfl
theorem nl_9 : nI 9 = 9 := rfl
theorem nl_10 : nI 10 = 10 := rfl
theorem nl_11 : nI 11 = 11 := rfl
theorem nl_12 : nI 12 = 12 := rfl
theorem nl_13 : nI 13 = 13 := rfl
theorem nl_14 : nI 14 = 14 := rfl
theorem b_one : ∀ i, i < 32 → bt 1 i = decide (i = 0) := by decide +kernel
theorem b_get (x : Int32) {k : Nat} (hk : k < 32) : (x >>> (nI k &&& 31)) &&& 1 = if bt x k then 1 else 0 := by
  refine b_ext (fun i hi => ?_)
  rw [b_and, b_one i hi]
  by_cases h : i = 0
  · subst h
    rw [b_sshr k hk x (by decide), if_pos (by omega)]
    simp only [decide_true, Bool.and_true, Nat.add_zero]
    cases bt x k
    · exact (b_0 0).symm
    · rfl
  · rw [decide_eq_false h, Bool.and_false]
    cases bt x k
    · exact (b_0 i).symm
    · show false = bt 1 i
      rw [b_one i hi, decide_eq_false h]
theorem b_rule (rb : Int32) {j k o : Nat} (hj : j < 14) (hk : k < 14) (ho : o ≤ 1) : ((((rb &&& ((1 <<< (nI j &&& 31)) ^^^ (-1))) ||| (nI o <<< (nI j &&& 31))) >>> (nI k &&& 31)) &&& 1) = if k = j then nI o else ((rb >>> (nI k &&& 31)) &&& 1) := by
  rw [b_get _ (by omega), b_get _ (by omega), b_or, b_and, b_xor, b_m1 k (by omega), b_shl j (by omega) _ (by omega), b_shl j (by omega) _ (by omega)]
  by_cases h : k = j
  · subst h
    rw [if_pos rfl, Nat.sub_self, b_one 0 (by decide)]
    have : o = 0 ∨ o = 1 := by omega
    rcases this with rfl | rfl
    · simp [nI_0, b_0]
    · simp [show nI 1 = 1 from rfl, b_one 0 (by decide)]
  · rw [if_neg h]
    have e1 : (decide (j ≤ k) && bt 1 (k - j)) = false := by
      rcases Nat.lt_or_ge k j with q | q
      · rw [decide_eq_false (by omega), Bool.false_and]
      · rw [b_one _ (by omega), decide_eq_false (show ¬ k - j = 0 by omega), Bool.and_false]
    have e2 : (decide (j ≤ k) && bt (nI o) (k - j)) = false := by
      have : o = 0 ∨ o = 1 := by omega
      rcases this with rfl | rfl
      · rw [nI_0, b_0, Bool.and_false]
      · exact e1
    rw [e1, e2]
    simp
section OP7
variable {K : Nat → Nat × Nat} {I I' : Nat → Nat → Int32} {R : Nat → Nat → Option Nat} {N fu x y n p : Nat} {d d' : rl_D} {rb ky : Int32} {g rc : Nat} {rf rt : Nat → Nat} {xc : Nat} {xk xt : Nat → Nat}
/-- the rules have changed: the class's bits, the reference's row -/
theorem rl_rules {J : Nat → Nat → Int32} (h : rl_W K I R x y n d rb ky g rc rf rt xc xk xt) {rb' : Int32} (k1 : ∀ b, b ≠ x → b ≠ y + 7 → J b = I b) (k2 : ∀ k, k ≠ 6 → J x k = I x k) (k3 : J x 6 = rb') (k4 : ∀ k, k < 14 → J (y + 7) k = ((rb' >>> (nI k &&& 31)) &&& 1)) : rl_V x y (K, J, R, N) := by
  obtain ⟨a1, a2, a3, a4, a5, a6, a7, a8, a9, a10, a11⟩ := id h
  have ht : sp_t x n = x + 2 + 4 * n := rfl
  have kx : ∀ b, b ≠ x → b ≠ y + 7 → b ≠ y + 7 → J b = I b := fun b q1 q2 _ => k1 b q1 q2
  obtain ⟨b1, b2, b3, b4, b5, b6, b7⟩ := a7
  exact ⟨K, J, R, N, n, d, rb', ky, g, rc, rf, rt, xc, xk, xt, rfl, a1, a2, a3, a4, a5.keep (fun b q1 q2 => kx b (by omega) (by omega) (by omega)), a6.keep (by rw [kx y (by omega) (by omega) (by omega)]) (fun b q1 q2 => kx b (by omega) (by omega) (by omega)), ⟨k3, by rw [k2 _ (by decide)]; exact b2, by rw [k2 _ (by decide)]; exact b3, k4, by rw [kx y (by omega) (by omega) (by omega)]; exact b5, by rw [kx y (by omega) (by omega) (by omega)]; exact b6, b7⟩, ⟨a8.1.keep (kx _ (by omega) (by omega) (by omega)) (kx _ (by omega) (by omega) (by omega)) (kx _ (by omega) (by omega) (by omega)) (by rw [kx y (by omega) (by omega) (by omega)]) (kx _ (by omega) (by omega) (by omega)) (kx _ (by omega) (by omega) (by omega)), a8.2⟩, ⟨a9.1.keep (kx _ (by omega) (by omega) (by omega)) (kx _ (by omega) (by omega) (by omega)) (kx _ (by omega) (by omega) (by omega)) (by rw [kx y (by omega) (by omega) (by omega)]) (kx _ (by omega) (by omega) (by omega)) (kx _ (by omega) (by omega) (by omega)), a9.2⟩, a10.keep (by rw [kx _ (by omega) (by omega) (by omega)]) (kx _ (by omega) (by omega) (by omega)), a11.keep (kx _ (by omega) (by omega) (by omega)) (kx _ (by omega) (by omega) (by omega)) (kx _ (by omega) (by omega) (by omega)) (kx _ (by omega) (by omega) (by omega)) (by rw [kx y (by omega) (by omega) (by omega)]) (by rw [kx y (by omega) (by omega) (by omega)]) (kx _ (by omega) (by omega) (by omega)) (kx _ (by omega) (by omega) (by omega))⟩

theorem op_rule (h : rl_W K I R x y n d rb ky g rc rf rt xc xk xt) (v w : Int32) : pu_ok (f_X6_rule fu x v w (K, I, R, N)) (fun r => pu_ok (f_X7_rule fu y v w r.2) (fun q => r.1 = q.1 ∧ rl_V x y q.2)) := by
  obtain ⟨a1, a2, a3, a4, a5, a6, a7, a8, a9, a10, a11⟩ := id h
  have ht : sp_t x n = x + 2 + 4 * n := rfl
  have hV : rl_V x y (K, I, R, N) := ⟨K, I, R, N, n, d, rb, ky, g, rc, rf, rt, xc, xk, xt, rfl, h⟩
  obtain ⟨b1, b2, b3, b4, b5, b6, b7⟩ := a7
  simp only [f_X6_rule, f_X6_rule_B16, in_kind, in_x, in_ite, Option.bind_some]
  by_cases c1 : 0 ≤ v ∧ v ≤ 13
  · simp only [if_pos c1]
    by_cases c2 : 0 ≤ w ∧ w ≤ 1
    · simp only [if_pos c2]
      obtain ⟨j, j1, rfl⟩ := in_rng (m := 13) rfl (by decide) c1
      obtain ⟨o, o1, rfl⟩ := in_rng (m := 1) rfl (by decide) c2
      simp only [pu_gi a1.k, pu_pi a1.k, b1, ho_id, Option.bind_some]
      refine pu_some ?_
      simp only [f_X7_rule, f_X7_rule_B36, f_X7_rule_B52, in_y, in_ite, Option.bind_some, pu_gr a2.k a2.f7.1]
      rw [if_pos c1, if_pos c2, pu_li a2.f7.2 (by omega) (by decide), pu_set_row _ _ _ _ (by omega), b4 j (by omega)]
      simp only [Option.bind_some]
      have hone : (if nI o = 1 then (1 : Int32) else 0) = nI o := by
        have : o = 0 ∨ o = 1 := by omega
        rcases this with rfl | rfl <;> rfl
      have hsz : ∀ (w : Int32), (if nI o = 1 then ((ho_sz (y + 7) (nI j) 1 (K, hp_set I x 6 ((rb &&& ((1 <<< (nI j &&& 31)) ^^^ (-1))) ||| (nI o <<< (nI j &&& 31))), R, N)).bind fun z => some (w, z)) else ((ho_sz (y + 7) (nI j) 0 (K, hp_set I x 6 ((rb &&& ((1 <<< (nI j &&& 31)) ^^^ (-1))) ||| (nI o <<< (nI j &&& 31))), R, N)).bind fun z => some (w, z))) = some (w, (K, hp_set (hp_set I x 6 ((rb &&& ((1 <<< (nI j &&& 31)) ^^^ (-1))) ||| (nI o <<< (nI j &&& 31)))) (y + 7) j (nI o), R, N)) := by
        intro w
        rw [pu_sz a2.f7.2 (by omega) (by decide), pu_sz a2.f7.2 (by omega) (by decide)]
        simp only [Option.bind_some, pu_vn0, pu_vn1]
        have : o = 0 ∨ o = 1 := by omega
        rcases this with rfl | rfl <;> rfl
      have hV2 : rl_V x y (K, hp_set (hp_set I x 6 ((rb &&& ((1 <<< (nI j &&& 31)) ^^^ (-1))) ||| (nI o <<< (nI j &&& 31)))) (y + 7) j (nI o), R, N) := by
        refine rl_rules h (rb' := (rb &&& ((1 <<< (nI j &&& 31)) ^^^ (-1))) ||| (nI o <<< (nI j &&& 31))) (fun b q1 q2 => by rw [pu_set_row _ _ _ _ q2, pu_set_row _ _ _ _ q1]) (fun k q => by rw [pu_set_row _ _ _ _ (by omega), pu_set_off _ _ _ _ q]) (by rw [pu_set_row _ _ _ _ (by omega), pu_set_at]) (fun k hk => ?_)
        rw [b_rule rb (by omega) hk o1, pu_set]
        simp only [if_true]
        by_cases q : k = j
        · rw [if_pos q, if_pos q]
        · rw [if_neg q, if_neg q, pu_set_row _ _ _ _ (by omega)]
          exact b4 k hk
      simp only [hsz]
      rw [b_get rb (by omega)]
      cases bt rb j
      · exact pu_some ⟨rfl, hV2⟩
      · exact pu_some ⟨rfl, hV2⟩
    · simp only [if_neg c2]
      refine pu_some ?_
      simp only [f_X7_rule, f_X7_rule_B19, in_y, in_ite, Option.bind_some]
      rw [if_pos c1, if_neg c2]
      exact pu_some ⟨rfl, hV⟩
  · simp only [if_neg c1]
    refine pu_some ?_
    simp only [f_X7_rule, f_X7_rule_B19, in_y, in_ite, Option.bind_some]
    rw [if_neg c1]
    exact pu_some ⟨rfl, hV⟩
/-- which rules a style has on -/
def st_b (s i : Nat) : Bool := s == 0 || (s == 1 && i != 1 && i != 4 && i != 12 && i != 13) || (s == 2 && (i == 0 || i == 2 || i == 3 || i == 8 || i == 9)) || (s == 3 && i == 0)
def st_c (s : Nat) : Nat → Nat
  | 0 => 0
  | i + 1 => st_c s i + (if st_b s i then 1 else 0)
theorem st_tab : ∀ s, s < 5 → ∀ k, k < 14 → (if st_b s k then (1 : Int32) else 0) = (((h_t0.getD s 0) >>> (nI k &&& 31)) &&& 1) := by decide +kernel
end OP7
