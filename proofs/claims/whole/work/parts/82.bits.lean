/-! how many bits -/
def tn (x : Int32) : Nat := x.toBitVec.toNat
theorem tn_lt (x : Int32) : tn x < 4294967296 := x.toBitVec.isLt
theorem tn_and (x y : Int32) : tn (x &&& y) = tn x &&& tn y := by
  unfold tn
  rw [Int32.toBitVec_and, BitVec.toNat_and]
theorem tn_add (x y : Int32) : tn (x + y) = (tn x + tn y) % 4294967296 := by
  unfold tn
  rw [Int32.toBitVec_add, BitVec.toNat_add]
theorem tn_sub (x y : Int32) : tn (x - y) = (4294967296 - tn y + tn x) % 4294967296 := by
  unfold tn
  rw [Int32.toBitVec_sub, BitVec.toNat_sub]
theorem tn_shr (k : Nat) (hk : k < 32) (x : Int32) : tn ((x.toUInt32 >>> ((nI k).toUInt32 &&& Int32.toUInt32 31)).toInt32) = tn x / 2 ^ k := by
  show (x.toUInt32 >>> ((nI k).toUInt32 &&& Int32.toUInt32 31)).toBitVec.toNat = _
  rw [UInt32.toBitVec_shiftRight]
  show (x.toUInt32.toBitVec >>> (((nI k).toUInt32 &&& Int32.toUInt32 31).toBitVec % 32).toNat).toNat = _
  rw [s_u k hk, BitVec.toNat_ushiftRight, Nat.shiftRight_eq_div_pow]
  rfl
def W4 (a b c d : Nat) : Nat := a + 256 * (b + 256 * (c + 256 * d))
theorem and_2 {a a' b b' : Nat} (h : a < 256) (h' : a' < 256) : (a + 256 * b) &&& (a' + 256 * b') = (a &&& a') + 256 * (b &&& b') := by
  have e : ∀ u v : Nat, u + 256 * v = 2 ^ 8 * v + u := fun u v => by omega
  have hlt : a &&& a' < 2 ^ 8 := Nat.and_lt_two_pow _ h'
  rw [e, e, e]
  refine Nat.eq_of_testBit_eq (fun j => ?_)
  rw [Nat.testBit_and, Nat.testBit_two_pow_mul_add _ h, Nat.testBit_two_pow_mul_add _ h', Nat.testBit_two_pow_mul_add _ hlt, Nat.testBit_and, Nat.testBit_and]
  split <;> rfl
theorem and_4 {a b c d a' b' c' d' : Nat} (h1 : a < 256) (h2 : b < 256) (h3 : c < 256) (h1' : a' < 256) (h2' : b' < 256) (h3' : c' < 256) : W4 a b c d &&& W4 a' b' c' d' = W4 (a &&& a') (b &&& b') (c &&& c') (d &&& d') := by
  unfold W4
  rw [and_2 h1 h1', and_2 h2 h2', and_2 h3 h3']
def bc1 (a : Nat) : Nat := a - ((a / 2) &&& 85)
def bc2 (a : Nat) : Nat := (bc1 a &&& 51) + ((bc1 a / 4) &&& 51)
def bc3 (a : Nat) : Nat := (bc2 a + bc2 a / 16) &&& 15
theorem bc_t1 : ∀ a, a < 256 → ((∀ r, r < 2 → (a / 2 + 128 * r) &&& 85 = (a / 2) &&& 85) ∧ (a / 2) &&& 85 ≤ a) := by decide +kernel
theorem bc_t2 : ∀ a, a < 256 → ((∀ r, r < 4 → (bc1 a / 4 + 64 * r) &&& 51 = (bc1 a / 4) &&& 51) ∧ bc1 a < 256 ∧ bc2 a < 70 ∧ bc2 a % 16 < 5) := by decide +kernel
theorem bc_t3 : ∀ a, a < 256 → ((∀ r, r < 5 → (bc2 a + (bc2 a / 16 + 16 * r)) &&& 15 = bc3 a) ∧ bc3 a ≤ 8 ∧ bc3 a = (List.range 8).countP (fun j => a.testBit j)) := by decide +kernel
theorem bc_t4 : ∀ s, s < 64 → s &&& 63 = s := by decide +kernel
theorem w_5 {A B C D : Nat} (h1 : A ≤ 8) (h2 : B ≤ 8) (h3 : C ≤ 8) (h4 : D ≤ 8) : (W4 (A + B) (B + C) (C + D) D + W4 (A + B) (B + C) (C + D) D / 2 ^ 16) % 4294967296 = W4 (A + B + C + D) (B + C + D) (C + D) D := by
  unfold W4
  have e : (A + B + 256 * (B + C + 256 * (C + D + 256 * D))) / 2 ^ 16 = C + D + 256 * D := by omega
  rw [e]
  omega
theorem bc_val (x : Int32) {a b c d : Nat} (h1 : a < 256) (h2 : b < 256) (h3 : c < 256) (h4 : d < 256) (hx : tn x = W4 a b c d) (z : hp_S) (fu : Nat) : f_J6_bitCount fu x z = some (nI (bc3 a + bc3 b + bc3 c + bc3 d), z) := by
  simp only [f_J6_bitCount, ho_id, Option.bind_some]
  have key : ∀ v1 v2 v3 v4 v5 : Int32, v1 = x - ((x.toUInt32 >>> ((nI 1).toUInt32 &&& Int32.toUInt32 31)).toInt32 &&& 1431655765) → v2 = (v1 &&& 858993459) + ((v1.toUInt32 >>> ((nI 2).toUInt32 &&& Int32.toUInt32 31)).toInt32 &&& 858993459) → v3 = (v2 + (v2.toUInt32 >>> ((nI 4).toUInt32 &&& Int32.toUInt32 31)).toInt32) &&& 252645135 → v4 = v3 + (v3.toUInt32 >>> ((nI 8).toUInt32 &&& Int32.toUInt32 31)).toInt32 → v5 = v4 + (v4.toUInt32 >>> ((nI 16).toUInt32 &&& Int32.toUInt32 31)).toInt32 → tn (v5 &&& 63) = bc3 a + bc3 b + bc3 c + bc3 d := by
    intro v1 v2 v3 v4 v5 e1 e2 e3 e4 e5
    obtain ⟨a1, a2⟩ := bc_t1 a h1
    obtain ⟨b1, b2⟩ := bc_t1 b h2
    obtain ⟨c1, c2⟩ := bc_t1 c h3
    obtain ⟨d1, d2⟩ := bc_t1 d h4
    obtain ⟨a3, a4, a5, a6⟩ := bc_t2 a h1
    obtain ⟨b3, b4, b5, b6⟩ := bc_t2 b h2
    obtain ⟨c3, c4, c5, c6⟩ := bc_t2 c h3
    obtain ⟨d3, d4, d5, d6⟩ := bc_t2 d h4
    obtain ⟨a7, a8, -⟩ := bc_t3 a h1
    obtain ⟨b7, b8, -⟩ := bc_t3 b h2
    obtain ⟨c7, c8, -⟩ := bc_t3 c h3
    obtain ⟨d7, d8, -⟩ := bc_t3 d h4
    have t1 : tn v1 = W4 (bc1 a) (bc1 b) (bc1 c) (bc1 d) := by
      rw [e1, tn_sub, tn_and, tn_shr 1 (by decide), hx, show tn 1431655765 = W4 85 85 85 85 from rfl, show W4 a b c d / 2 ^ 1 = W4 (a / 2 + 128 * (b % 2)) (b / 2 + 128 * (c % 2)) (c / 2 + 128 * (d % 2)) (d / 2 + 128 * 0) by unfold W4; omega, and_4 (by omega) (by omega) (by omega) (by decide) (by decide) (by decide), a1 _ (by omega), b1 _ (by omega), c1 _ (by omega), d1 _ (by omega)]
      unfold bc1
      generalize a / 2 &&& 85 = A at *
      generalize b / 2 &&& 85 = B at *
      generalize c / 2 &&& 85 = C at *
      generalize d / 2 &&& 85 = D at *
      unfold W4
      omega
    have t2 : tn v2 = W4 (bc2 a) (bc2 b) (bc2 c) (bc2 d) := by
      rw [e2, tn_add, tn_and, tn_and, tn_shr 2 (by decide), t1, show tn 858993459 = W4 51 51 51 51 from rfl, show W4 (bc1 a) (bc1 b) (bc1 c) (bc1 d) / 2 ^ 2 = W4 (bc1 a / 4 + 64 * (bc1 b % 4)) (bc1 b / 4 + 64 * (bc1 c % 4)) (bc1 c / 4 + 64 * (bc1 d % 4)) (bc1 d / 4 + 64 * 0) by unfold W4; omega, and_4 (by omega) (by omega) (by omega) (by decide) (by decide) (by decide), and_4 (by omega) (by omega) (by omega) (by decide) (by decide) (by decide), a3 _ (by omega), b3 _ (by omega), c3 _ (by omega), d3 _ (by omega)]
      unfold bc2 at *
      generalize bc1 a &&& 51 = A at *
      generalize bc1 b &&& 51 = B at *
      generalize bc1 c &&& 51 = C at *
      generalize bc1 d &&& 51 = D at *
      generalize bc1 a / 4 &&& 51 = A' at *
      generalize bc1 b / 4 &&& 51 = B' at *
      generalize bc1 c / 4 &&& 51 = C' at *
      generalize bc1 d / 4 &&& 51 = D' at *
      unfold W4
      omega
    have t3 : tn v3 = W4 (bc3 a) (bc3 b) (bc3 c) (bc3 d) := by
      rw [e3, tn_and, tn_add, tn_shr 4 (by decide), t2, show tn 252645135 = W4 15 15 15 15 from rfl, show (W4 (bc2 a) (bc2 b) (bc2 c) (bc2 d) + W4 (bc2 a) (bc2 b) (bc2 c) (bc2 d) / 2 ^ 4) % 4294967296 = W4 (bc2 a + (bc2 a / 16 + 16 * (bc2 b % 16))) (bc2 b + (bc2 b / 16 + 16 * (bc2 c % 16))) (bc2 c + (bc2 c / 16 + 16 * (bc2 d % 16))) (bc2 d + (bc2 d / 16 + 16 * 0)) by unfold W4; omega, and_4 (by omega) (by omega) (by omega) (by decide) (by decide) (by decide), a7 _ b6, b7 _ c6, c7 _ d6, d7 0 (by decide)]
    have t4 : tn v4 = W4 (bc3 a + bc3 b) (bc3 b + bc3 c) (bc3 c + bc3 d) (bc3 d) := by
      rw [e4, tn_add, tn_shr 8 (by decide), t3]
      unfold W4
      omega
    have t5 : ∃ u v w, tn v5 = W4 (bc3 a + bc3 b + bc3 c + bc3 d) u v w ∧ u < 256 ∧ v < 256 := by
      refine ⟨bc3 b + bc3 c + bc3 d, bc3 c + bc3 d, bc3 d, ?_, by omega, by omega⟩
      rw [e5, tn_add, tn_shr 16 (by decide), t4]
      exact w_5 a8 b8 c8 d8
    obtain ⟨u, v, w, t6, t7, t8⟩ := t5
    rw [tn_and, t6, show tn 63 = W4 63 0 0 0 from rfl, and_4 (by omega) t7 t8 (by decide) (by decide) (by decide), bc_t4 _ (by omega), Nat.and_zero, Nat.and_zero, Nat.and_zero]
    unfold W4
    omega
  have h := key _ _ _ _ _ rfl rfl rfl rfl rfl
  have hb : bc3 a + bc3 b + bc3 c + bc3 d < 2 ^ 31 := by
    have := (bc_t3 a h1).2.1
    have := (bc_t3 b h2).2.1
    have := (bc_t3 c h3).2.1
    have := (bc_t3 d h4).2.1
    omega
  refine congrArg (fun r => some (r, z)) ?_
  refine Int32.toBitVec_inj.mp (BitVec.eq_of_toNat_eq ?_)
  refine Eq.trans h ?_
  generalize bc3 a + bc3 b + bc3 c + bc3 d = s at hb ⊢
  show s = s % 2 ^ 32
  omega
theorem r_32 : List.range 32 = List.range 8 ++ ((List.range 8).map (fun j => 8 + j) ++ ((List.range 8).map (fun j => 16 + j) ++ (List.range 8).map (fun j => 24 + j))) := by decide
theorem tb_4 {a b c d : Nat} (h1 : a < 256) (h2 : b < 256) (h3 : c < 256) {j : Nat} (hj : j < 8) : (W4 a b c d).testBit j = a.testBit j ∧ (W4 a b c d).testBit (8 + j) = b.testBit j ∧ (W4 a b c d).testBit (16 + j) = c.testBit j ∧ (W4 a b c d).testBit (24 + j) = d.testBit j := by
  have e : ∀ u v : Nat, u + 256 * v = 2 ^ 8 * v + u := fun u v => by omega
  unfold W4
  rw [e, e, e]
  refine ⟨?_, ?_, ?_, ?_⟩
  · rw [Nat.testBit_two_pow_mul_add _ h1, if_pos hj]
  · rw [Nat.testBit_two_pow_mul_add _ h1, if_neg (by omega), show 8 + j - 8 = j by omega, Nat.testBit_two_pow_mul_add _ h2, if_pos hj]
  · rw [Nat.testBit_two_pow_mul_add _ h1, if_neg (by omega), show 16 + j - 8 = 8 + j by omega, Nat.testBit_two_pow_mul_add _ h2, if_neg (by omega), show 8 + j - 8 = j by omega, Nat.testBit_two_pow_mul_add _ h3, if_pos hj]
  · rw [Nat.testBit_two_pow_mul_add _ h1, if_neg (by omega), show 24 + j - 8 = 16 + j by omega, Nat.testBit_two_pow_mul_add _ h2, if_neg (by omega), show 16 + j - 8 = 8 + j by omega, Nat.testBit_two_pow_mul_add _ h3, if_neg (by omega), show 8 + j - 8 = j by omega]
theorem bc_all (x : Int32) (z : hp_S) (fu : Nat) : f_J6_bitCount fu x z = some (nI ((List.range 32).countP (rl_bit x)), z) := by
  have hl := tn_lt x
  have hx : tn x = W4 (tn x % 256) (tn x / 256 % 256) (tn x / 65536 % 256) (tn x / 16777216) := by unfold W4; omega
  have h1 : tn x % 256 < 256 := by omega
  have h2 : tn x / 256 % 256 < 256 := by omega
  have h3 : tn x / 65536 % 256 < 256 := by omega
  have h4 : tn x / 16777216 < 256 := by omega
  rw [bc_val x h1 h2 h3 h4 hx, (bc_t3 _ h1).2.2, (bc_t3 _ h2).2.2, (bc_t3 _ h3).2.2, (bc_t3 _ h4).2.2]
  have hb : ∀ j, rl_bit x j = (tn x).testBit j := fun j => rfl
  have e0 : (List.range 8).countP (rl_bit x) = (List.range 8).countP (fun j => (tn x % 256).testBit j) := List.countP_congr (fun j hj => by rw [hb, hx, (tb_4 h1 h2 h3 (List.mem_range.mp hj)).1, ← hx])
  have e1 : ((List.range 8).map (fun j => 8 + j)).countP (rl_bit x) = (List.range 8).countP (fun j => (tn x / 256 % 256).testBit j) := by
    rw [List.countP_map]
    exact List.countP_congr (fun j hj => by show rl_bit x (8 + j) = true ↔ _; rw [hb, hx, (tb_4 h1 h2 h3 (List.mem_range.mp hj)).2.1, ← hx])
  have e2 : ((List.range 8).map (fun j => 16 + j)).countP (rl_bit x) = (List.range 8).countP (fun j => (tn x / 65536 % 256).testBit j) := by
    rw [List.countP_map]
    exact List.countP_congr (fun j hj => by show rl_bit x (16 + j) = true ↔ _; rw [hb, hx, (tb_4 h1 h2 h3 (List.mem_range.mp hj)).2.2.1, ← hx])
  have e3 : ((List.range 8).map (fun j => 24 + j)).countP (rl_bit x) = (List.range 8).countP (fun j => (tn x / 16777216).testBit j) := by
    rw [List.countP_map]
    exact List.countP_congr (fun j hj => by show rl_bit x (24 + j) = true ↔ _; rw [hb, hx, (tb_4 h1 h2 h3 (List.mem_range.mp hj)).2.2.2, ← hx])
  rw [r_32, List.countP_append, List.countP_append, List.countP_append, e0, e1, e2, e3]
  congr 2
  congr 1
  omega
theorem r_32b : List.range 32 = List.range 25 ++ (List.range 7).map (fun j => 25 + j) := by decide
theorem bc_25 {x : Int32} (h : ∀ b, 25 ≤ b → rl_bit x b = false) (z : hp_S) (fu : Nat) : f_J6_bitCount fu x z = some (nI ((List.range 25).filter (rl_bit x)).length, z) := by
  rw [bc_all, r_32b, List.countP_append, List.countP_map, List.countP_eq_length_filter]
  have : (List.range 7).countP (rl_bit x ∘ fun j => 25 + j) = 0 := List.countP_eq_zero.mpr (fun j _ => by show ¬ rl_bit x (25 + j) = true; rw [h _ (by omega)]; decide)
  rw [this, Nat.add_zero]
