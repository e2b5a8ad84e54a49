/-! the reference: is a moment broken? what a kind is about -/
def nt_pv (X : Nat → Nat → Option nt_T) (m : Nat) : Nat → Option nt_T := if m = 0 then fun _ => none else X (m - 1)
def nt_ab (n kind a b : Nat) : Bool :=
  match kind with
  | 2 => decide (a = 0 ∧ b = n - 1)
  | 4 => decide (b = a + 1)
  | 5 => decide (b = a + 1)
  | 6 => decide (a = b)
  | 7 => decide (a = b)
  | 8 => decide (a = b)
  | 10 => decide (a = b ∧ 0 < a)
  | 11 => decide (a ≠ b)
  | 13 => decide (b = a + 1)
  | _ => decide (a < b)
theorem nn_le {a b : Nat} (ha : a < 100) (hb : b < 100) : nI a ≤ nI b ↔ a ≤ b := by
  rw [iI_nat, iI_nat, iI_le (by omega) (by omega) (by omega) (by omega)]
  omega
theorem nn_eq {a b : Nat} (ha : a < 100) (hb : b < 100) : nI a = nI b ↔ a = b := nI_eq (by omega) (by omega)
theorem nn_le0 {a : Nat} (ha : a < 100) : nI a ≤ 0 ↔ a = 0 := by
  rw [← nI_0, nn_le ha (by decide)]
  omega
theorem nn_eq0 {a : Nat} (ha : a < 100) : nI a = 0 ↔ a = 0 := by rw [← nI_0, nn_eq ha (by decide)]
theorem nn_eq0' {a : Nat} (ha : a < 120) : nI a = 0 ↔ a = 0 := by rw [← nI_0, nI_eq (by omega) (by decide)]
theorem nn_m1 {a : Nat} (ha : a < 100) : (nI a = -1) ↔ False := ⟨fun q => nI_m1 (by omega) q, False.elim⟩
theorem nn_sp {n : Nat} (h : 2 ≤ n) : nI n - 1 = nI (n - 1) := by
  obtain ⟨k, rfl⟩ : ∃ k, n = k + 1 := ⟨n - 1, by omega⟩
  rw [nI_pred, Nat.add_sub_cancel]
theorem mm_le {a : Nat} (ha : a < 100) : (-1 : Int32) ≤ nI a ↔ True := by
  rw [iI_nat, li_le (by omega) (by omega), show (-1 : Int32).toInt = -1 from rfl]
  exact ⟨fun _ => trivial, fun _ => by omega⟩
theorem mm_eq {a : Nat} (ha : a < 100) : (-1 : Int32) = nI a ↔ False := ⟨fun q => nI_mj (by omega) q, False.elim⟩
theorem kc_14 {k : Nat} (h : k < 14) : k = 0 ∨ k = 1 ∨ k = 2 ∨ k = 3 ∨ k = 4 ∨ k = 5 ∨ k = 6 ∨ k = 7 ∨ k = 8 ∨ k = 9 ∨ k = 10 ∨ k = 11 ∨ k = 12 ∨ k = 13 := by omega
section YB
variable {K : Nat → Nat × Nat} {I : Nat → Nat → Int32} {R : Nat → Nat → Option Nat} {N fu y n c : Nat} {X : Nat → Nat → Option nt_T} {ky : Int}
theorem yb_ab (hY : sp_Y K R y) (h0 : I y 0 = nI n) (h2 : 2 ≤ n) (hn : n ≤ 5) {k a b : Nat} (hk : k < 14) (ha : a < n) (hb : b < n) : f_X7_isAbout fu y (nI k) (nI a) (nI b) (K, I, R, N) = some (bI (!nt_al k && nt_ab n k a b), (K, I, R, N)) := by
  have h5 := hn
  rcases kc_14 hk with rfl | rfl | rfl | rfl | rfl | rfl | rfl | rfl | rfl | rfl | rfl | rfl | rfl | rfl
  · unfold f_X7_isAbout
    rw [if_neg (by decide : ¬ nI 0 = 2)]
    rw [if_neg (by decide : ¬ nI 0 = 3)]
    rw [if_neg (by decide : ¬ nI 0 = 4)]
    rw [if_neg (by decide : ¬ nI 0 = 5)]
    rw [if_neg (by decide : ¬ nI 0 = 6)]
    rw [if_neg (by decide : ¬ nI 0 = 7)]
    rw [if_neg (by decide : ¬ nI 0 = 8)]
    rw [if_neg (by decide : ¬ nI 0 = 9)]
    rw [if_neg (by decide : ¬ nI 0 = 10)]
    rw [if_neg (by decide : ¬ nI 0 = 11)]
    rw [if_neg (by decide : ¬ nI 0 = 12)]
    rw [if_neg (by decide : ¬ nI 0 = 13)]
    simp only [f_X7_isAbout_B83, f_X7_isAbout_B82, f_X7_isAbout_B149, f_X7_isAbout_B96, f_X7_isAbout_B107, f_X7_isAbout_B122, f_X7_isAbout_B121, f_X7_isAbout_B138, f_X7_isAbout_B137, pu_gi hY.k, h0, Option.bind_some, pu_vn0, pu_vn1, if_true, if_false, nn_le (show b < 100 by omega) (show a < 100 by omega), nn_eq (show b < 100 by omega) (show a < 100 by omega), nn_eq (show b < 100 by omega) (show a + 1 < 100 by omega), nn_eq (show b < 100 by omega) (show n - 1 < 100 by omega), nn_eq0 (show a < 100 by omega), nn_le0 (show a < 100 by omega), nn_m1 (show b < 100 by omega), nI_1, nn_sp h2, nt_al, nt_ab]
    first | rfl | (split <;> first | (simp_all [bI]; done) | (simp_all [bI]; omega) | (split <;> first | (simp_all [bI]; done) | (simp_all [bI]; omega))) | (simp [bI]; done)
  · unfold f_X7_isAbout
    rw [if_neg (by decide : ¬ nI 1 = 2)]
    rw [if_neg (by decide : ¬ nI 1 = 3)]
    rw [if_neg (by decide : ¬ nI 1 = 4)]
    rw [if_neg (by decide : ¬ nI 1 = 5)]
    rw [if_neg (by decide : ¬ nI 1 = 6)]
    rw [if_neg (by decide : ¬ nI 1 = 7)]
    rw [if_neg (by decide : ¬ nI 1 = 8)]
    rw [if_neg (by decide : ¬ nI 1 = 9)]
    rw [if_neg (by decide : ¬ nI 1 = 10)]
    rw [if_neg (by decide : ¬ nI 1 = 11)]
    rw [if_neg (by decide : ¬ nI 1 = 12)]
    rw [if_neg (by decide : ¬ nI 1 = 13)]
    simp only [f_X7_isAbout_B83, f_X7_isAbout_B82, f_X7_isAbout_B149, f_X7_isAbout_B96, f_X7_isAbout_B107, f_X7_isAbout_B122, f_X7_isAbout_B121, f_X7_isAbout_B138, f_X7_isAbout_B137, pu_gi hY.k, h0, Option.bind_some, pu_vn0, pu_vn1, if_true, if_false, nn_le (show b < 100 by omega) (show a < 100 by omega), nn_eq (show b < 100 by omega) (show a < 100 by omega), nn_eq (show b < 100 by omega) (show a + 1 < 100 by omega), nn_eq (show b < 100 by omega) (show n - 1 < 100 by omega), nn_eq0 (show a < 100 by omega), nn_le0 (show a < 100 by omega), nn_m1 (show b < 100 by omega), nI_1, nn_sp h2, nt_al, nt_ab]
    first | rfl | (split <;> first | (simp_all [bI]; done) | (simp_all [bI]; omega) | (split <;> first | (simp_all [bI]; done) | (simp_all [bI]; omega))) | (simp [bI]; done)
  · unfold f_X7_isAbout
    rw [if_pos (by decide : nI 2 = 2)]
    simp only [f_X7_isAbout_B83, f_X7_isAbout_B82, f_X7_isAbout_B149, f_X7_isAbout_B96, f_X7_isAbout_B107, f_X7_isAbout_B122, f_X7_isAbout_B121, f_X7_isAbout_B138, f_X7_isAbout_B137, pu_gi hY.k, h0, Option.bind_some, pu_vn0, pu_vn1, if_true, if_false, nn_le (show b < 100 by omega) (show a < 100 by omega), nn_eq (show b < 100 by omega) (show a < 100 by omega), nn_eq (show b < 100 by omega) (show a + 1 < 100 by omega), nn_eq (show b < 100 by omega) (show n - 1 < 100 by omega), nn_eq0 (show a < 100 by omega), nn_le0 (show a < 100 by omega), nn_m1 (show b < 100 by omega), nI_1, nn_sp h2, nt_al, nt_ab]
    first | rfl | (split <;> first | (simp_all [bI]; done) | (simp_all [bI]; omega) | (split <;> first | (simp_all [bI]; done) | (simp_all [bI]; omega))) | (simp [bI]; done)
  · unfold f_X7_isAbout
    rw [if_neg (by decide : ¬ nI 3 = 2)]
    rw [if_pos (by decide : nI 3 = 3)]
    simp only [f_X7_isAbout_B83, f_X7_isAbout_B82, f_X7_isAbout_B149, f_X7_isAbout_B96, f_X7_isAbout_B107, f_X7_isAbout_B122, f_X7_isAbout_B121, f_X7_isAbout_B138, f_X7_isAbout_B137, pu_gi hY.k, h0, Option.bind_some, pu_vn0, pu_vn1, if_true, if_false, nn_le (show b < 100 by omega) (show a < 100 by omega), nn_eq (show b < 100 by omega) (show a < 100 by omega), nn_eq (show b < 100 by omega) (show a + 1 < 100 by omega), nn_eq (show b < 100 by omega) (show n - 1 < 100 by omega), nn_eq0 (show a < 100 by omega), nn_le0 (show a < 100 by omega), nn_m1 (show b < 100 by omega), nI_1, nn_sp h2, nt_al, nt_ab]
    first | rfl | (split <;> first | (simp_all [bI]; done) | (simp_all [bI]; omega) | (split <;> first | (simp_all [bI]; done) | (simp_all [bI]; omega))) | (simp [bI]; done)
  · unfold f_X7_isAbout
    rw [if_neg (by decide : ¬ nI 4 = 2)]
    rw [if_neg (by decide : ¬ nI 4 = 3)]
    rw [if_pos (by decide : nI 4 = 4)]
    simp only [f_X7_isAbout_B83, f_X7_isAbout_B82, f_X7_isAbout_B149, f_X7_isAbout_B96, f_X7_isAbout_B107, f_X7_isAbout_B122, f_X7_isAbout_B121, f_X7_isAbout_B138, f_X7_isAbout_B137, pu_gi hY.k, h0, Option.bind_some, pu_vn0, pu_vn1, if_true, if_false, nn_le (show b < 100 by omega) (show a < 100 by omega), nn_eq (show b < 100 by omega) (show a < 100 by omega), nn_eq (show b < 100 by omega) (show a + 1 < 100 by omega), nn_eq (show b < 100 by omega) (show n - 1 < 100 by omega), nn_eq0 (show a < 100 by omega), nn_le0 (show a < 100 by omega), nn_m1 (show b < 100 by omega), nI_1, nn_sp h2, nt_al, nt_ab]
    first | rfl | (split <;> first | (simp_all [bI]; done) | (simp_all [bI]; omega) | (split <;> first | (simp_all [bI]; done) | (simp_all [bI]; omega))) | (simp [bI]; done)
  · unfold f_X7_isAbout
    rw [if_neg (by decide : ¬ nI 5 = 2)]
    rw [if_neg (by decide : ¬ nI 5 = 3)]
    rw [if_neg (by decide : ¬ nI 5 = 4)]
    rw [if_pos (by decide : nI 5 = 5)]
    simp only [f_X7_isAbout_B83, f_X7_isAbout_B82, f_X7_isAbout_B149, f_X7_isAbout_B96, f_X7_isAbout_B107, f_X7_isAbout_B122, f_X7_isAbout_B121, f_X7_isAbout_B138, f_X7_isAbout_B137, pu_gi hY.k, h0, Option.bind_some, pu_vn0, pu_vn1, if_true, if_false, nn_le (show b < 100 by omega) (show a < 100 by omega), nn_eq (show b < 100 by omega) (show a < 100 by omega), nn_eq (show b < 100 by omega) (show a + 1 < 100 by omega), nn_eq (show b < 100 by omega) (show n - 1 < 100 by omega), nn_eq0 (show a < 100 by omega), nn_le0 (show a < 100 by omega), nn_m1 (show b < 100 by omega), nI_1, nn_sp h2, nt_al, nt_ab]
    first | rfl | (split <;> first | (simp_all [bI]; done) | (simp_all [bI]; omega) | (split <;> first | (simp_all [bI]; done) | (simp_all [bI]; omega))) | (simp [bI]; done)
  · unfold f_X7_isAbout
    rw [if_neg (by decide : ¬ nI 6 = 2)]
    rw [if_neg (by decide : ¬ nI 6 = 3)]
    rw [if_neg (by decide : ¬ nI 6 = 4)]
    rw [if_neg (by decide : ¬ nI 6 = 5)]
    rw [if_pos (by decide : nI 6 = 6)]
    simp only [f_X7_isAbout_B83, f_X7_isAbout_B82, f_X7_isAbout_B149, f_X7_isAbout_B96, f_X7_isAbout_B107, f_X7_isAbout_B122, f_X7_isAbout_B121, f_X7_isAbout_B138, f_X7_isAbout_B137, pu_gi hY.k, h0, Option.bind_some, pu_vn0, pu_vn1, if_true, if_false, nn_le (show b < 100 by omega) (show a < 100 by omega), nn_eq (show b < 100 by omega) (show a < 100 by omega), nn_eq (show b < 100 by omega) (show a + 1 < 100 by omega), nn_eq (show b < 100 by omega) (show n - 1 < 100 by omega), nn_eq0 (show a < 100 by omega), nn_le0 (show a < 100 by omega), nn_m1 (show b < 100 by omega), nI_1, nn_sp h2, nt_al, nt_ab]
    first | rfl | (split <;> first | (simp_all [bI]; done) | (simp_all [bI]; omega) | (split <;> first | (simp_all [bI]; done) | (simp_all [bI]; omega))) | (simp [bI]; done)
  · unfold f_X7_isAbout
    rw [if_neg (by decide : ¬ nI 7 = 2)]
    rw [if_neg (by decide : ¬ nI 7 = 3)]
    rw [if_neg (by decide : ¬ nI 7 = 4)]
    rw [if_neg (by decide : ¬ nI 7 = 5)]
    rw [if_neg (by decide : ¬ nI 7 = 6)]
    rw [if_pos (by decide : nI 7 = 7)]
    simp only [f_X7_isAbout_B83, f_X7_isAbout_B82, f_X7_isAbout_B149, f_X7_isAbout_B96, f_X7_isAbout_B107, f_X7_isAbout_B122, f_X7_isAbout_B121, f_X7_isAbout_B138, f_X7_isAbout_B137, pu_gi hY.k, h0, Option.bind_some, pu_vn0, pu_vn1, if_true, if_false, nn_le (show b < 100 by omega) (show a < 100 by omega), nn_eq (show b < 100 by omega) (show a < 100 by omega), nn_eq (show b < 100 by omega) (show a + 1 < 100 by omega), nn_eq (show b < 100 by omega) (show n - 1 < 100 by omega), nn_eq0 (show a < 100 by omega), nn_le0 (show a < 100 by omega), nn_m1 (show b < 100 by omega), nI_1, nn_sp h2, nt_al, nt_ab]
    first | rfl | (split <;> first | (simp_all [bI]; done) | (simp_all [bI]; omega) | (split <;> first | (simp_all [bI]; done) | (simp_all [bI]; omega))) | (simp [bI]; done)
  · unfold f_X7_isAbout
    rw [if_neg (by decide : ¬ nI 8 = 2)]
    rw [if_neg (by decide : ¬ nI 8 = 3)]
    rw [if_neg (by decide : ¬ nI 8 = 4)]
    rw [if_neg (by decide : ¬ nI 8 = 5)]
    rw [if_neg (by decide : ¬ nI 8 = 6)]
    rw [if_neg (by decide : ¬ nI 8 = 7)]
    rw [if_pos (by decide : nI 8 = 8)]
    simp only [f_X7_isAbout_B83, f_X7_isAbout_B82, f_X7_isAbout_B149, f_X7_isAbout_B96, f_X7_isAbout_B107, f_X7_isAbout_B122, f_X7_isAbout_B121, f_X7_isAbout_B138, f_X7_isAbout_B137, pu_gi hY.k, h0, Option.bind_some, pu_vn0, pu_vn1, if_true, if_false, nn_le (show b < 100 by omega) (show a < 100 by omega), nn_eq (show b < 100 by omega) (show a < 100 by omega), nn_eq (show b < 100 by omega) (show a + 1 < 100 by omega), nn_eq (show b < 100 by omega) (show n - 1 < 100 by omega), nn_eq0 (show a < 100 by omega), nn_le0 (show a < 100 by omega), nn_m1 (show b < 100 by omega), nI_1, nn_sp h2, nt_al, nt_ab]
    first | rfl | (split <;> first | (simp_all [bI]; done) | (simp_all [bI]; omega) | (split <;> first | (simp_all [bI]; done) | (simp_all [bI]; omega))) | (simp [bI]; done)
  · unfold f_X7_isAbout
    rw [if_neg (by decide : ¬ nI 9 = 2)]
    rw [if_neg (by decide : ¬ nI 9 = 3)]
    rw [if_neg (by decide : ¬ nI 9 = 4)]
    rw [if_neg (by decide : ¬ nI 9 = 5)]
    rw [if_neg (by decide : ¬ nI 9 = 6)]
    rw [if_neg (by decide : ¬ nI 9 = 7)]
    rw [if_neg (by decide : ¬ nI 9 = 8)]
    rw [if_pos (by decide : nI 9 = 9)]
    simp only [f_X7_isAbout_B83, f_X7_isAbout_B82, f_X7_isAbout_B149, f_X7_isAbout_B96, f_X7_isAbout_B107, f_X7_isAbout_B122, f_X7_isAbout_B121, f_X7_isAbout_B138, f_X7_isAbout_B137, pu_gi hY.k, h0, Option.bind_some, pu_vn0, pu_vn1, if_true, if_false, nn_le (show b < 100 by omega) (show a < 100 by omega), nn_eq (show b < 100 by omega) (show a < 100 by omega), nn_eq (show b < 100 by omega) (show a + 1 < 100 by omega), nn_eq (show b < 100 by omega) (show n - 1 < 100 by omega), nn_eq0 (show a < 100 by omega), nn_le0 (show a < 100 by omega), nn_m1 (show b < 100 by omega), nI_1, nn_sp h2, nt_al, nt_ab]
    first | rfl | (split <;> first | (simp_all [bI]; done) | (simp_all [bI]; omega) | (split <;> first | (simp_all [bI]; done) | (simp_all [bI]; omega))) | (simp [bI]; done)
  · unfold f_X7_isAbout
    rw [if_neg (by decide : ¬ nI 10 = 2)]
    rw [if_neg (by decide : ¬ nI 10 = 3)]
    rw [if_neg (by decide : ¬ nI 10 = 4)]
    rw [if_neg (by decide : ¬ nI 10 = 5)]
    rw [if_neg (by decide : ¬ nI 10 = 6)]
    rw [if_neg (by decide : ¬ nI 10 = 7)]
    rw [if_neg (by decide : ¬ nI 10 = 8)]
    rw [if_neg (by decide : ¬ nI 10 = 9)]
    rw [if_pos (by decide : nI 10 = 10)]
    simp only [f_X7_isAbout_B83, f_X7_isAbout_B82, f_X7_isAbout_B149, f_X7_isAbout_B96, f_X7_isAbout_B107, f_X7_isAbout_B122, f_X7_isAbout_B121, f_X7_isAbout_B138, f_X7_isAbout_B137, pu_gi hY.k, h0, Option.bind_some, pu_vn0, pu_vn1, if_true, if_false, nn_le (show b < 100 by omega) (show a < 100 by omega), nn_eq (show b < 100 by omega) (show a < 100 by omega), nn_eq (show b < 100 by omega) (show a + 1 < 100 by omega), nn_eq (show b < 100 by omega) (show n - 1 < 100 by omega), nn_eq0 (show a < 100 by omega), nn_le0 (show a < 100 by omega), nn_m1 (show b < 100 by omega), nI_1, nn_sp h2, nt_al, nt_ab]
    first | rfl | (split <;> first | (simp_all [bI]; done) | (simp_all [bI]; omega) | (split <;> first | (simp_all [bI]; done) | (simp_all [bI]; omega))) | (simp [bI]; done)
  · unfold f_X7_isAbout
    rw [if_neg (by decide : ¬ nI 11 = 2)]
    rw [if_neg (by decide : ¬ nI 11 = 3)]
    rw [if_neg (by decide : ¬ nI 11 = 4)]
    rw [if_neg (by decide : ¬ nI 11 = 5)]
    rw [if_neg (by decide : ¬ nI 11 = 6)]
    rw [if_neg (by decide : ¬ nI 11 = 7)]
    rw [if_neg (by decide : ¬ nI 11 = 8)]
    rw [if_neg (by decide : ¬ nI 11 = 9)]
    rw [if_neg (by decide : ¬ nI 11 = 10)]
    rw [if_pos (by decide : nI 11 = 11)]
    simp only [f_X7_isAbout_B83, f_X7_isAbout_B82, f_X7_isAbout_B149, f_X7_isAbout_B96, f_X7_isAbout_B107, f_X7_isAbout_B122, f_X7_isAbout_B121, f_X7_isAbout_B138, f_X7_isAbout_B137, pu_gi hY.k, h0, Option.bind_some, pu_vn0, pu_vn1, if_true, if_false, nn_le (show b < 100 by omega) (show a < 100 by omega), nn_eq (show b < 100 by omega) (show a < 100 by omega), nn_eq (show b < 100 by omega) (show a + 1 < 100 by omega), nn_eq (show b < 100 by omega) (show n - 1 < 100 by omega), nn_eq0 (show a < 100 by omega), nn_le0 (show a < 100 by omega), nn_m1 (show b < 100 by omega), nI_1, nn_sp h2, nt_al, nt_ab]
    first | rfl | (split <;> first | (simp_all [bI]; done) | (simp_all [bI]; omega) | (split <;> first | (simp_all [bI]; done) | (simp_all [bI]; omega))) | (simp [bI]; done)
  · unfold f_X7_isAbout
    rw [if_neg (by decide : ¬ nI 12 = 2)]
    rw [if_neg (by decide : ¬ nI 12 = 3)]
    rw [if_neg (by decide : ¬ nI 12 = 4)]
    rw [if_neg (by decide : ¬ nI 12 = 5)]
    rw [if_neg (by decide : ¬ nI 12 = 6)]
    rw [if_neg (by decide : ¬ nI 12 = 7)]
    rw [if_neg (by decide : ¬ nI 12 = 8)]
    rw [if_neg (by decide : ¬ nI 12 = 9)]
    rw [if_neg (by decide : ¬ nI 12 = 10)]
    rw [if_neg (by decide : ¬ nI 12 = 11)]
    rw [if_pos (by decide : nI 12 = 12)]
    simp only [f_X7_isAbout_B83, f_X7_isAbout_B82, f_X7_isAbout_B149, f_X7_isAbout_B96, f_X7_isAbout_B107, f_X7_isAbout_B122, f_X7_isAbout_B121, f_X7_isAbout_B138, f_X7_isAbout_B137, pu_gi hY.k, h0, Option.bind_some, pu_vn0, pu_vn1, if_true, if_false, nn_le (show b < 100 by omega) (show a < 100 by omega), nn_eq (show b < 100 by omega) (show a < 100 by omega), nn_eq (show b < 100 by omega) (show a + 1 < 100 by omega), nn_eq (show b < 100 by omega) (show n - 1 < 100 by omega), nn_eq0 (show a < 100 by omega), nn_le0 (show a < 100 by omega), nn_m1 (show b < 100 by omega), nI_1, nn_sp h2, nt_al, nt_ab]
    first | rfl | (split <;> first | (simp_all [bI]; done) | (simp_all [bI]; omega) | (split <;> first | (simp_all [bI]; done) | (simp_all [bI]; omega))) | (simp [bI]; done)
  · unfold f_X7_isAbout
    rw [if_neg (by decide : ¬ nI 13 = 2)]
    rw [if_neg (by decide : ¬ nI 13 = 3)]
    rw [if_neg (by decide : ¬ nI 13 = 4)]
    rw [if_neg (by decide : ¬ nI 13 = 5)]
    rw [if_neg (by decide : ¬ nI 13 = 6)]
    rw [if_neg (by decide : ¬ nI 13 = 7)]
    rw [if_neg (by decide : ¬ nI 13 = 8)]
    rw [if_neg (by decide : ¬ nI 13 = 9)]
    rw [if_neg (by decide : ¬ nI 13 = 10)]
    rw [if_neg (by decide : ¬ nI 13 = 11)]
    rw [if_neg (by decide : ¬ nI 13 = 12)]
    rw [if_pos (by decide : nI 13 = 13)]
    simp only [f_X7_isAbout_B83, f_X7_isAbout_B82, f_X7_isAbout_B149, f_X7_isAbout_B96, f_X7_isAbout_B107, f_X7_isAbout_B122, f_X7_isAbout_B121, f_X7_isAbout_B138, f_X7_isAbout_B137, pu_gi hY.k, h0, Option.bind_some, pu_vn0, pu_vn1, if_true, if_false, nn_le (show b < 100 by omega) (show a < 100 by omega), nn_eq (show b < 100 by omega) (show a < 100 by omega), nn_eq (show b < 100 by omega) (show a + 1 < 100 by omega), nn_eq (show b < 100 by omega) (show n - 1 < 100 by omega), nn_eq0 (show a < 100 by omega), nn_le0 (show a < 100 by omega), nn_m1 (show b < 100 by omega), nI_1, nn_sp h2, nt_al, nt_ab]
    first | rfl | (split <;> first | (simp_all [bI]; done) | (simp_all [bI]; omega) | (split <;> first | (simp_all [bI]; done) | (simp_all [bI]; omega))) | (simp [bI]; done)
theorem yb_am (hY : sp_Y K R y) (h0 : I y 0 = nI n) (h2 : 2 ≤ n) (hn : n ≤ 5) {k a : Nat} (hk : k < 14) (ha : a < n) : f_X7_isAbout fu y (nI k) (nI a) (-1) (K, I, R, N) = some (bI (nt_al k && nt_ab n k a a), (K, I, R, N)) := by
  have h5 := hn
  rcases kc_14 hk with rfl | rfl | rfl | rfl | rfl | rfl | rfl | rfl | rfl | rfl | rfl | rfl | rfl | rfl
  · unfold f_X7_isAbout
    rw [if_neg (by decide : ¬ nI 0 = 2)]
    rw [if_neg (by decide : ¬ nI 0 = 3)]
    rw [if_neg (by decide : ¬ nI 0 = 4)]
    rw [if_neg (by decide : ¬ nI 0 = 5)]
    rw [if_neg (by decide : ¬ nI 0 = 6)]
    rw [if_neg (by decide : ¬ nI 0 = 7)]
    rw [if_neg (by decide : ¬ nI 0 = 8)]
    rw [if_neg (by decide : ¬ nI 0 = 9)]
    rw [if_neg (by decide : ¬ nI 0 = 10)]
    rw [if_neg (by decide : ¬ nI 0 = 11)]
    rw [if_neg (by decide : ¬ nI 0 = 12)]
    rw [if_neg (by decide : ¬ nI 0 = 13)]
    simp only [f_X7_isAbout_B83, f_X7_isAbout_B82, f_X7_isAbout_B149, f_X7_isAbout_B96, f_X7_isAbout_B107, f_X7_isAbout_B122, f_X7_isAbout_B121, f_X7_isAbout_B138, f_X7_isAbout_B137, pu_gi hY.k, h0, Option.bind_some, pu_vn0, pu_vn1, if_true, if_false, mm_le (show a < 100 by omega), mm_eq (show a < 100 by omega), mm_eq (show a + 1 < 100 by omega), mm_eq (show n - 1 < 100 by omega), nn_eq0 (show a < 100 by omega), nn_le0 (show a < 100 by omega), nI_1, nn_sp h2, nt_al, nt_ab]
    first | rfl | (split <;> first | (simp_all [bI]; done) | (simp_all [bI]; omega) | (split <;> first | (simp_all [bI]; done) | (simp_all [bI]; omega))) | (simp [bI]; done)
  · unfold f_X7_isAbout
    rw [if_neg (by decide : ¬ nI 1 = 2)]
    rw [if_neg (by decide : ¬ nI 1 = 3)]
    rw [if_neg (by decide : ¬ nI 1 = 4)]
    rw [if_neg (by decide : ¬ nI 1 = 5)]
    rw [if_neg (by decide : ¬ nI 1 = 6)]
    rw [if_neg (by decide : ¬ nI 1 = 7)]
    rw [if_neg (by decide : ¬ nI 1 = 8)]
    rw [if_neg (by decide : ¬ nI 1 = 9)]
    rw [if_neg (by decide : ¬ nI 1 = 10)]
    rw [if_neg (by decide : ¬ nI 1 = 11)]
    rw [if_neg (by decide : ¬ nI 1 = 12)]
    rw [if_neg (by decide : ¬ nI 1 = 13)]
    simp only [f_X7_isAbout_B83, f_X7_isAbout_B82, f_X7_isAbout_B149, f_X7_isAbout_B96, f_X7_isAbout_B107, f_X7_isAbout_B122, f_X7_isAbout_B121, f_X7_isAbout_B138, f_X7_isAbout_B137, pu_gi hY.k, h0, Option.bind_some, pu_vn0, pu_vn1, if_true, if_false, mm_le (show a < 100 by omega), mm_eq (show a < 100 by omega), mm_eq (show a + 1 < 100 by omega), mm_eq (show n - 1 < 100 by omega), nn_eq0 (show a < 100 by omega), nn_le0 (show a < 100 by omega), nI_1, nn_sp h2, nt_al, nt_ab]
    first | rfl | (split <;> first | (simp_all [bI]; done) | (simp_all [bI]; omega) | (split <;> first | (simp_all [bI]; done) | (simp_all [bI]; omega))) | (simp [bI]; done)
  · unfold f_X7_isAbout
    rw [if_pos (by decide : nI 2 = 2)]
    simp only [f_X7_isAbout_B83, f_X7_isAbout_B82, f_X7_isAbout_B149, f_X7_isAbout_B96, f_X7_isAbout_B107, f_X7_isAbout_B122, f_X7_isAbout_B121, f_X7_isAbout_B138, f_X7_isAbout_B137, pu_gi hY.k, h0, Option.bind_some, pu_vn0, pu_vn1, if_true, if_false, mm_le (show a < 100 by omega), mm_eq (show a < 100 by omega), mm_eq (show a + 1 < 100 by omega), mm_eq (show n - 1 < 100 by omega), nn_eq0 (show a < 100 by omega), nn_le0 (show a < 100 by omega), nI_1, nn_sp h2, nt_al, nt_ab]
    first | rfl | (split <;> first | (simp_all [bI]; done) | (simp_all [bI]; omega) | (split <;> first | (simp_all [bI]; done) | (simp_all [bI]; omega))) | (simp [bI]; done)
  · unfold f_X7_isAbout
    rw [if_neg (by decide : ¬ nI 3 = 2)]
    rw [if_pos (by decide : nI 3 = 3)]
    simp only [f_X7_isAbout_B83, f_X7_isAbout_B82, f_X7_isAbout_B149, f_X7_isAbout_B96, f_X7_isAbout_B107, f_X7_isAbout_B122, f_X7_isAbout_B121, f_X7_isAbout_B138, f_X7_isAbout_B137, pu_gi hY.k, h0, Option.bind_some, pu_vn0, pu_vn1, if_true, if_false, mm_le (show a < 100 by omega), mm_eq (show a < 100 by omega), mm_eq (show a + 1 < 100 by omega), mm_eq (show n - 1 < 100 by omega), nn_eq0 (show a < 100 by omega), nn_le0 (show a < 100 by omega), nI_1, nn_sp h2, nt_al, nt_ab]
    first | rfl | (split <;> first | (simp_all [bI]; done) | (simp_all [bI]; omega) | (split <;> first | (simp_all [bI]; done) | (simp_all [bI]; omega))) | (simp [bI]; done)
  · unfold f_X7_isAbout
    rw [if_neg (by decide : ¬ nI 4 = 2)]
    rw [if_neg (by decide : ¬ nI 4 = 3)]
    rw [if_pos (by decide : nI 4 = 4)]
    simp only [f_X7_isAbout_B83, f_X7_isAbout_B82, f_X7_isAbout_B149, f_X7_isAbout_B96, f_X7_isAbout_B107, f_X7_isAbout_B122, f_X7_isAbout_B121, f_X7_isAbout_B138, f_X7_isAbout_B137, pu_gi hY.k, h0, Option.bind_some, pu_vn0, pu_vn1, if_true, if_false, mm_le (show a < 100 by omega), mm_eq (show a < 100 by omega), mm_eq (show a + 1 < 100 by omega), mm_eq (show n - 1 < 100 by omega), nn_eq0 (show a < 100 by omega), nn_le0 (show a < 100 by omega), nI_1, nn_sp h2, nt_al, nt_ab]
    first | rfl | (split <;> first | (simp_all [bI]; done) | (simp_all [bI]; omega) | (split <;> first | (simp_all [bI]; done) | (simp_all [bI]; omega))) | (simp [bI]; done)
  · unfold f_X7_isAbout
    rw [if_neg (by decide : ¬ nI 5 = 2)]
    rw [if_neg (by decide : ¬ nI 5 = 3)]
    rw [if_neg (by decide : ¬ nI 5 = 4)]
    rw [if_pos (by decide : nI 5 = 5)]
    simp only [f_X7_isAbout_B83, f_X7_isAbout_B82, f_X7_isAbout_B149, f_X7_isAbout_B96, f_X7_isAbout_B107, f_X7_isAbout_B122, f_X7_isAbout_B121, f_X7_isAbout_B138, f_X7_isAbout_B137, pu_gi hY.k, h0, Option.bind_some, pu_vn0, pu_vn1, if_true, if_false, mm_le (show a < 100 by omega), mm_eq (show a < 100 by omega), mm_eq (show a + 1 < 100 by omega), mm_eq (show n - 1 < 100 by omega), nn_eq0 (show a < 100 by omega), nn_le0 (show a < 100 by omega), nI_1, nn_sp h2, nt_al, nt_ab]
    first | rfl | (split <;> first | (simp_all [bI]; done) | (simp_all [bI]; omega) | (split <;> first | (simp_all [bI]; done) | (simp_all [bI]; omega))) | (simp [bI]; done)
  · unfold f_X7_isAbout
    rw [if_neg (by decide : ¬ nI 6 = 2)]
    rw [if_neg (by decide : ¬ nI 6 = 3)]
    rw [if_neg (by decide : ¬ nI 6 = 4)]
    rw [if_neg (by decide : ¬ nI 6 = 5)]
    rw [if_pos (by decide : nI 6 = 6)]
    simp only [f_X7_isAbout_B83, f_X7_isAbout_B82, f_X7_isAbout_B149, f_X7_isAbout_B96, f_X7_isAbout_B107, f_X7_isAbout_B122, f_X7_isAbout_B121, f_X7_isAbout_B138, f_X7_isAbout_B137, pu_gi hY.k, h0, Option.bind_some, pu_vn0, pu_vn1, if_true, if_false, mm_le (show a < 100 by omega), mm_eq (show a < 100 by omega), mm_eq (show a + 1 < 100 by omega), mm_eq (show n - 1 < 100 by omega), nn_eq0 (show a < 100 by omega), nn_le0 (show a < 100 by omega), nI_1, nn_sp h2, nt_al, nt_ab]
    first | rfl | (split <;> first | (simp_all [bI]; done) | (simp_all [bI]; omega) | (split <;> first | (simp_all [bI]; done) | (simp_all [bI]; omega))) | (simp [bI]; done)
  · unfold f_X7_isAbout
    rw [if_neg (by decide : ¬ nI 7 = 2)]
    rw [if_neg (by decide : ¬ nI 7 = 3)]
    rw [if_neg (by decide : ¬ nI 7 = 4)]
    rw [if_neg (by decide : ¬ nI 7 = 5)]
    rw [if_neg (by decide : ¬ nI 7 = 6)]
    rw [if_pos (by decide : nI 7 = 7)]
    simp only [f_X7_isAbout_B83, f_X7_isAbout_B82, f_X7_isAbout_B149, f_X7_isAbout_B96, f_X7_isAbout_B107, f_X7_isAbout_B122, f_X7_isAbout_B121, f_X7_isAbout_B138, f_X7_isAbout_B137, pu_gi hY.k, h0, Option.bind_some, pu_vn0, pu_vn1, if_true, if_false, mm_le (show a < 100 by omega), mm_eq (show a < 100 by omega), mm_eq (show a + 1 < 100 by omega), mm_eq (show n - 1 < 100 by omega), nn_eq0 (show a < 100 by omega), nn_le0 (show a < 100 by omega), nI_1, nn_sp h2, nt_al, nt_ab]
    first | rfl | (split <;> first | (simp_all [bI]; done) | (simp_all [bI]; omega) | (split <;> first | (simp_all [bI]; done) | (simp_all [bI]; omega))) | (simp [bI]; done)
  · unfold f_X7_isAbout
    rw [if_neg (by decide : ¬ nI 8 = 2)]
    rw [if_neg (by decide : ¬ nI 8 = 3)]
    rw [if_neg (by decide : ¬ nI 8 = 4)]
    rw [if_neg (by decide : ¬ nI 8 = 5)]
    rw [if_neg (by decide : ¬ nI 8 = 6)]
    rw [if_neg (by decide : ¬ nI 8 = 7)]
    rw [if_pos (by decide : nI 8 = 8)]
    simp only [f_X7_isAbout_B83, f_X7_isAbout_B82, f_X7_isAbout_B149, f_X7_isAbout_B96, f_X7_isAbout_B107, f_X7_isAbout_B122, f_X7_isAbout_B121, f_X7_isAbout_B138, f_X7_isAbout_B137, pu_gi hY.k, h0, Option.bind_some, pu_vn0, pu_vn1, if_true, if_false, mm_le (show a < 100 by omega), mm_eq (show a < 100 by omega), mm_eq (show a + 1 < 100 by omega), mm_eq (show n - 1 < 100 by omega), nn_eq0 (show a < 100 by omega), nn_le0 (show a < 100 by omega), nI_1, nn_sp h2, nt_al, nt_ab]
    first | rfl | (split <;> first | (simp_all [bI]; done) | (simp_all [bI]; omega) | (split <;> first | (simp_all [bI]; done) | (simp_all [bI]; omega))) | (simp [bI]; done)
  · unfold f_X7_isAbout
    rw [if_neg (by decide : ¬ nI 9 = 2)]
    rw [if_neg (by decide : ¬ nI 9 = 3)]
    rw [if_neg (by decide : ¬ nI 9 = 4)]
    rw [if_neg (by decide : ¬ nI 9 = 5)]
    rw [if_neg (by decide : ¬ nI 9 = 6)]
    rw [if_neg (by decide : ¬ nI 9 = 7)]
    rw [if_neg (by decide : ¬ nI 9 = 8)]
    rw [if_pos (by decide : nI 9 = 9)]
    simp only [f_X7_isAbout_B83, f_X7_isAbout_B82, f_X7_isAbout_B149, f_X7_isAbout_B96, f_X7_isAbout_B107, f_X7_isAbout_B122, f_X7_isAbout_B121, f_X7_isAbout_B138, f_X7_isAbout_B137, pu_gi hY.k, h0, Option.bind_some, pu_vn0, pu_vn1, if_true, if_false, mm_le (show a < 100 by omega), mm_eq (show a < 100 by omega), mm_eq (show a + 1 < 100 by omega), mm_eq (show n - 1 < 100 by omega), nn_eq0 (show a < 100 by omega), nn_le0 (show a < 100 by omega), nI_1, nn_sp h2, nt_al, nt_ab]
    first | rfl | (split <;> first | (simp_all [bI]; done) | (simp_all [bI]; omega) | (split <;> first | (simp_all [bI]; done) | (simp_all [bI]; omega))) | (simp [bI]; done)
  · unfold f_X7_isAbout
    rw [if_neg (by decide : ¬ nI 10 = 2)]
    rw [if_neg (by decide : ¬ nI 10 = 3)]
    rw [if_neg (by decide : ¬ nI 10 = 4)]
    rw [if_neg (by decide : ¬ nI 10 = 5)]
    rw [if_neg (by decide : ¬ nI 10 = 6)]
    rw [if_neg (by decide : ¬ nI 10 = 7)]
    rw [if_neg (by decide : ¬ nI 10 = 8)]
    rw [if_neg (by decide : ¬ nI 10 = 9)]
    rw [if_pos (by decide : nI 10 = 10)]
    simp only [f_X7_isAbout_B83, f_X7_isAbout_B82, f_X7_isAbout_B149, f_X7_isAbout_B96, f_X7_isAbout_B107, f_X7_isAbout_B122, f_X7_isAbout_B121, f_X7_isAbout_B138, f_X7_isAbout_B137, pu_gi hY.k, h0, Option.bind_some, pu_vn0, pu_vn1, if_true, if_false, mm_le (show a < 100 by omega), mm_eq (show a < 100 by omega), mm_eq (show a + 1 < 100 by omega), mm_eq (show n - 1 < 100 by omega), nn_eq0 (show a < 100 by omega), nn_le0 (show a < 100 by omega), nI_1, nn_sp h2, nt_al, nt_ab]
    first | rfl | (split <;> first | (simp_all [bI]; done) | (simp_all [bI]; omega) | (split <;> first | (simp_all [bI]; done) | (simp_all [bI]; omega))) | (simp [bI]; done)
  · unfold f_X7_isAbout
    rw [if_neg (by decide : ¬ nI 11 = 2)]
    rw [if_neg (by decide : ¬ nI 11 = 3)]
    rw [if_neg (by decide : ¬ nI 11 = 4)]
    rw [if_neg (by decide : ¬ nI 11 = 5)]
    rw [if_neg (by decide : ¬ nI 11 = 6)]
    rw [if_neg (by decide : ¬ nI 11 = 7)]
    rw [if_neg (by decide : ¬ nI 11 = 8)]
    rw [if_neg (by decide : ¬ nI 11 = 9)]
    rw [if_neg (by decide : ¬ nI 11 = 10)]
    rw [if_pos (by decide : nI 11 = 11)]
    simp only [f_X7_isAbout_B83, f_X7_isAbout_B82, f_X7_isAbout_B149, f_X7_isAbout_B96, f_X7_isAbout_B107, f_X7_isAbout_B122, f_X7_isAbout_B121, f_X7_isAbout_B138, f_X7_isAbout_B137, pu_gi hY.k, h0, Option.bind_some, pu_vn0, pu_vn1, if_true, if_false, mm_le (show a < 100 by omega), mm_eq (show a < 100 by omega), mm_eq (show a + 1 < 100 by omega), mm_eq (show n - 1 < 100 by omega), nn_eq0 (show a < 100 by omega), nn_le0 (show a < 100 by omega), nI_1, nn_sp h2, nt_al, nt_ab]
    first | rfl | (split <;> first | (simp_all [bI]; done) | (simp_all [bI]; omega) | (split <;> first | (simp_all [bI]; done) | (simp_all [bI]; omega))) | (simp [bI]; done)
  · unfold f_X7_isAbout
    rw [if_neg (by decide : ¬ nI 12 = 2)]
    rw [if_neg (by decide : ¬ nI 12 = 3)]
    rw [if_neg (by decide : ¬ nI 12 = 4)]
    rw [if_neg (by decide : ¬ nI 12 = 5)]
    rw [if_neg (by decide : ¬ nI 12 = 6)]
    rw [if_neg (by decide : ¬ nI 12 = 7)]
    rw [if_neg (by decide : ¬ nI 12 = 8)]
    rw [if_neg (by decide : ¬ nI 12 = 9)]
    rw [if_neg (by decide : ¬ nI 12 = 10)]
    rw [if_neg (by decide : ¬ nI 12 = 11)]
    rw [if_pos (by decide : nI 12 = 12)]
    simp only [f_X7_isAbout_B83, f_X7_isAbout_B82, f_X7_isAbout_B149, f_X7_isAbout_B96, f_X7_isAbout_B107, f_X7_isAbout_B122, f_X7_isAbout_B121, f_X7_isAbout_B138, f_X7_isAbout_B137, pu_gi hY.k, h0, Option.bind_some, pu_vn0, pu_vn1, if_true, if_false, mm_le (show a < 100 by omega), mm_eq (show a < 100 by omega), mm_eq (show a + 1 < 100 by omega), mm_eq (show n - 1 < 100 by omega), nn_eq0 (show a < 100 by omega), nn_le0 (show a < 100 by omega), nI_1, nn_sp h2, nt_al, nt_ab]
    first | rfl | (split <;> first | (simp_all [bI]; done) | (simp_all [bI]; omega) | (split <;> first | (simp_all [bI]; done) | (simp_all [bI]; omega))) | (simp [bI]; done)
  · unfold f_X7_isAbout
    rw [if_neg (by decide : ¬ nI 13 = 2)]
    rw [if_neg (by decide : ¬ nI 13 = 3)]
    rw [if_neg (by decide : ¬ nI 13 = 4)]
    rw [if_neg (by decide : ¬ nI 13 = 5)]
    rw [if_neg (by decide : ¬ nI 13 = 6)]
    rw [if_neg (by decide : ¬ nI 13 = 7)]
    rw [if_neg (by decide : ¬ nI 13 = 8)]
    rw [if_neg (by decide : ¬ nI 13 = 9)]
    rw [if_neg (by decide : ¬ nI 13 = 10)]
    rw [if_neg (by decide : ¬ nI 13 = 11)]
    rw [if_neg (by decide : ¬ nI 13 = 12)]
    rw [if_pos (by decide : nI 13 = 13)]
    simp only [f_X7_isAbout_B83, f_X7_isAbout_B82, f_X7_isAbout_B149, f_X7_isAbout_B96, f_X7_isAbout_B107, f_X7_isAbout_B122, f_X7_isAbout_B121, f_X7_isAbout_B138, f_X7_isAbout_B137, pu_gi hY.k, h0, Option.bind_some, pu_vn0, pu_vn1, if_true, if_false, mm_le (show a < 100 by omega), mm_eq (show a < 100 by omega), mm_eq (show a + 1 < 100 by omega), mm_eq (show n - 1 < 100 by omega), nn_eq0 (show a < 100 by omega), nn_le0 (show a < 100 by omega), nI_1, nn_sp h2, nt_al, nt_ab]
    first | rfl | (split <;> first | (simp_all [bI]; done) | (simp_all [bI]; omega) | (split <;> first | (simp_all [bI]; done) | (simp_all [bI]; omega))) | (simp [bI]; done)
theorem yb_of (fu : Nat) (z : hp_S) {k : Nat} (hk : k < 14) : f_X7_isOfMoments fu (nI k) z = some (bI (nt_mk k), z) := by
  rcases kc_14 hk with rfl | rfl | rfl | rfl | rfl | rfl | rfl | rfl | rfl | rfl | rfl | rfl | rfl | rfl <;> rfl
theorem ym_3 (hY : sp_Y K R y) (hA : yr_at I y n c X) {a b m : Nat} (ha : a < n) (hb : b < n) (hm : m < c) : f_X7_isBrokenAt fu y (nI 3) (nI a) (nI b) (nI m) (K, I, R, N) = some (bI (nt_go (X m a) (X m b) && decide (nt_up (X m a) (X m b) < 0)), (K, I, R, N)) := by
  have h5 := hA.1
  have h6 := hA.2.1
  have hup := yr_up (fu := fu) (N := N) hY hA ha hb hm
  simp only [f_X7_isBrokenAt, f_X7_isBrokenAt_B27, pu_is hY.k, Option.bind_some, pu_vn0, if_true, yr_f hY (show a < 5 by omega) (show m < 120 by omega), yr_f hY (show b < 5 by omega) (show m < 120 by omega)]
  rcases hA.2.2 a ha m hm with ⟨o1, e1⟩ | ⟨q, k1, o1, i1, j1, e1, s1, t1⟩
  · rw [o1, e1, if_pos rfl]
    rfl
  · rcases hA.2.2 b hb m hm with ⟨o2, e2⟩ | ⟨r, k2, o2, i2, j2, e2, s2, t2⟩
    · rw [o1, o2, e1, e2, if_neg (nI_m1 j1), if_neg (nI_m1 (show b < 120 by omega)), if_pos rfl]
      first | rfl | (simp [nt_ld, bI]; done)
    · rw [e1, e2, if_neg (nI_m1 j1), if_neg (nI_m1 (show b < 120 by omega)), if_neg (nI_m1 j2)]
      have b1 := nt_hb i1
      have b2 := nt_hb i2
      have hup := hup (by rw [o1, o2]; rfl)
      unfold f_X7_isBrokenAt_B29
      rw [if_pos (by decide : nI 3 = 3)]
      simp only [f_X7_isBrokenAt_B27, f_X7_isBrokenAt_B88, f_X7_isBrokenAt_B278, f_X7_isBrokenAt_B116, f_X7_isBrokenAt_B108, f_X7_isBrokenAt_B227, f_X7_isBrokenAt_B226, f_X7_isBrokenAt_B191, f_X7_isBrokenAt_B186, f_X7_isBrokenAt_B144, f_X7_isBrokenAt_B261, f_X7_isBrokenAt_B260, pu_is hY.k, Option.bind_some, hup, pu_vn0, pu_vn1, if_true]
      rw [o1, o2]
      have hu : nt_up (some q) (some r) = nt_h r - nt_h q := rfl
      rw [hu, show nt_go (some q) (some r) = true from rfl, Bool.true_and]
      simp only [li_le (show -1000 ≤ nt_h r - nt_h q by omega) (show nt_h r - nt_h q ≤ 1000 by omega), show (0 : Int32).toInt = 0 from rfl]
      exact lp_fin (by omega)
theorem ym_5 (hY : sp_Y K R y) (hA : yr_at I y n c X) {a b m : Nat} (ha : a < n) (hb : b < n) (hm : m < c) : f_X7_isBrokenAt fu y (nI 5) (nI a) (nI b) (nI m) (K, I, R, N) = some (bI (nt_go (X m a) (X m b) && decide ((if a = 0 then 19 else 12) < nt_up (X m a) (X m b))), (K, I, R, N)) := by
  have h5 := hA.1
  have h6 := hA.2.1
  have hup := yr_up (fu := fu) (N := N) hY hA ha hb hm
  simp only [f_X7_isBrokenAt, f_X7_isBrokenAt_B27, pu_is hY.k, Option.bind_some, pu_vn0, if_true, yr_f hY (show a < 5 by omega) (show m < 120 by omega), yr_f hY (show b < 5 by omega) (show m < 120 by omega)]
  rcases hA.2.2 a ha m hm with ⟨o1, e1⟩ | ⟨q, k1, o1, i1, j1, e1, s1, t1⟩
  · rw [o1, e1, if_pos rfl]
    rfl
  · rcases hA.2.2 b hb m hm with ⟨o2, e2⟩ | ⟨r, k2, o2, i2, j2, e2, s2, t2⟩
    · rw [o1, o2, e1, e2, if_neg (nI_m1 j1), if_neg (nI_m1 (show b < 120 by omega)), if_pos rfl]
      first | rfl | (simp [nt_ld, bI]; done)
    · rw [e1, e2, if_neg (nI_m1 j1), if_neg (nI_m1 (show b < 120 by omega)), if_neg (nI_m1 j2)]
      have b1 := nt_hb i1
      have b2 := nt_hb i2
      have hup := hup (by rw [o1, o2]; rfl)
      unfold f_X7_isBrokenAt_B29
      rw [if_neg (by decide : ¬ nI 5 = 3)]
      rw [if_neg (by decide : ¬ nI 5 = 4)]
      rw [if_pos (by decide : nI 5 = 5)]
      simp only [f_X7_isBrokenAt_B27, f_X7_isBrokenAt_B88, f_X7_isBrokenAt_B278, f_X7_isBrokenAt_B116, f_X7_isBrokenAt_B108, f_X7_isBrokenAt_B227, f_X7_isBrokenAt_B226, f_X7_isBrokenAt_B191, f_X7_isBrokenAt_B186, f_X7_isBrokenAt_B144, f_X7_isBrokenAt_B261, f_X7_isBrokenAt_B260, pu_is hY.k, Option.bind_some, hup, pu_vn0, pu_vn1, if_true]
      rw [o1, o2]
      have hu : nt_up (some q) (some r) = nt_h r - nt_h q := rfl
      rw [hu, show nt_go (some q) (some r) = true from rfl, Bool.true_and]
      simp only [il_le (show -1000 ≤ nt_h r - nt_h q by omega) (show nt_h r - nt_h q ≤ 1000 by omega), show (19 : Int32).toInt = 19 from rfl, show (12 : Int32).toInt = 12 from rfl, nn_eq0 (show a < 100 by omega)]
      by_cases ha0 : a = 0
      · simp only [if_pos ha0]
        exact lp_fin (by omega)
      · simp only [if_neg ha0]
        exact lp_fin (by omega)
theorem ym_13 (hY : sp_Y K R y) (hA : yr_at I y n c X) {a b m : Nat} (ha : a < n) (hb : b < n) (hm : m < c) : f_X7_isBrokenAt fu y (nI 13) (nI a) (nI b) (nI m) (K, I, R, N) = some (bI (nt_go (X m a) (X m b) && decide (nt_up (X m a) (X m b) = 0)), (K, I, R, N)) := by
  have h5 := hA.1
  have h6 := hA.2.1
  have hup := yr_up (fu := fu) (N := N) hY hA ha hb hm
  simp only [f_X7_isBrokenAt, f_X7_isBrokenAt_B27, pu_is hY.k, Option.bind_some, pu_vn0, if_true, yr_f hY (show a < 5 by omega) (show m < 120 by omega), yr_f hY (show b < 5 by omega) (show m < 120 by omega)]
  rcases hA.2.2 a ha m hm with ⟨o1, e1⟩ | ⟨q, k1, o1, i1, j1, e1, s1, t1⟩
  · rw [o1, e1, if_pos rfl]
    rfl
  · rcases hA.2.2 b hb m hm with ⟨o2, e2⟩ | ⟨r, k2, o2, i2, j2, e2, s2, t2⟩
    · rw [o1, o2, e1, e2, if_neg (nI_m1 j1), if_neg (nI_m1 (show b < 120 by omega)), if_pos rfl]
      first | rfl | (simp [nt_ld, bI]; done)
    · rw [e1, e2, if_neg (nI_m1 j1), if_neg (nI_m1 (show b < 120 by omega)), if_neg (nI_m1 j2)]
      have b1 := nt_hb i1
      have b2 := nt_hb i2
      have hup := hup (by rw [o1, o2]; rfl)
      unfold f_X7_isBrokenAt_B29
      rw [if_neg (by decide : ¬ nI 13 = 3)]
      rw [if_neg (by decide : ¬ nI 13 = 4)]
      rw [if_neg (by decide : ¬ nI 13 = 5)]
      rw [if_neg (by decide : ¬ nI 13 = 6)]
      rw [if_neg (by decide : ¬ nI 13 = 7)]
      rw [if_neg (by decide : ¬ nI 13 = 8)]
      rw [if_neg (by decide : ¬ nI 13 = 9)]
      simp only [f_X7_isBrokenAt_B27, f_X7_isBrokenAt_B88, f_X7_isBrokenAt_B278, f_X7_isBrokenAt_B116, f_X7_isBrokenAt_B108, f_X7_isBrokenAt_B227, f_X7_isBrokenAt_B226, f_X7_isBrokenAt_B191, f_X7_isBrokenAt_B186, f_X7_isBrokenAt_B144, f_X7_isBrokenAt_B261, f_X7_isBrokenAt_B260, pu_is hY.k, Option.bind_some, hup, pu_vn0, pu_vn1, if_true]
      rw [o1, o2]
      have hu : nt_up (some q) (some r) = nt_h r - nt_h q := rfl
      rw [hu, show nt_go (some q) (some r) = true from rfl, Bool.true_and]
      simp only [il_eq (show -1000 ≤ nt_h r - nt_h q by omega) (show nt_h r - nt_h q ≤ 1000 by omega), show (0 : Int32).toInt = 0 from rfl]
      by_cases hd : nt_h r - nt_h q = 0
      · rw [if_pos hd, decide_eq_true hd]
        rfl
      · rw [if_neg hd, decide_eq_false hd]
        rfl
theorem ym_9 (hY : sp_Y K R y) (hA : yr_at I y n c X) (hk8 : I y 8 = iI ky) (hy1 : -7 ≤ ky) (hy2 : ky ≤ 7) {a b m : Nat} (ha : a < n) (hb : b < n) (hm : m < c) : f_X7_isBrokenAt fu y (nI 9) (nI a) (nI b) (nI m) (K, I, R, N) = some (bI (nt_ld ky (X m a) && nt_ld ky (X m b)), (K, I, R, N)) := by
  have h5 := hA.1
  have h6 := hA.2.1
  have hup := yr_up (fu := fu) (N := N) hY hA ha hb hm
  simp only [f_X7_isBrokenAt, f_X7_isBrokenAt_B27, pu_is hY.k, Option.bind_some, pu_vn0, if_true, yr_f hY (show a < 5 by omega) (show m < 120 by omega), yr_f hY (show b < 5 by omega) (show m < 120 by omega)]
  rcases hA.2.2 a ha m hm with ⟨o1, e1⟩ | ⟨q, k1, o1, i1, j1, e1, s1, t1⟩
  · rw [o1, e1, if_pos rfl]
    rfl
  · rcases hA.2.2 b hb m hm with ⟨o2, e2⟩ | ⟨r, k2, o2, i2, j2, e2, s2, t2⟩
    · rw [o1, o2, e1, e2, if_neg (nI_m1 j1), if_neg (nI_m1 (show b < 120 by omega)), if_pos rfl]
      first | rfl | (simp [nt_ld, bI]; done)
    · rw [e1, e2, if_neg (nI_m1 j1), if_neg (nI_m1 (show b < 120 by omega)), if_neg (nI_m1 j2)]
      have b1 := nt_hb i1
      have b2 := nt_hb i2
      have hup := hup (by rw [o1, o2]; rfl)
      unfold f_X7_isBrokenAt_B29
      rw [if_neg (by decide : ¬ nI 9 = 3)]
      rw [if_neg (by decide : ¬ nI 9 = 4)]
      rw [if_neg (by decide : ¬ nI 9 = 5)]
      rw [if_neg (by decide : ¬ nI 9 = 6)]
      rw [if_neg (by decide : ¬ nI 9 = 7)]
      rw [if_neg (by decide : ¬ nI 9 = 8)]
      rw [if_pos (by decide : nI 9 = 9)]
      have l1 := yr_lead (fu := fu) (N := N) hY hk8 hy1 hy2 (hA.2.2 a ha m hm)
      have l2 := yr_lead (fu := fu) (N := N) hY hk8 hy1 hy2 (hA.2.2 b hb m hm)
      simp only [f_X7_isBrokenAt_B27, f_X7_isBrokenAt_B88, f_X7_isBrokenAt_B278, f_X7_isBrokenAt_B116, f_X7_isBrokenAt_B108, f_X7_isBrokenAt_B227, f_X7_isBrokenAt_B226, f_X7_isBrokenAt_B191, f_X7_isBrokenAt_B186, f_X7_isBrokenAt_B144, f_X7_isBrokenAt_B261, f_X7_isBrokenAt_B260, pu_is hY.k, Option.bind_some, l1, l2, pu_vn0, pu_vn1, if_true, yr_f hY (show a < 5 by omega) (show m < 120 by omega), yr_f hY (show b < 5 by omega) (show m < 120 by omega), bI_ite]
      cases nt_ld ky (X m a)
      · rfl
      · cases nt_ld ky (X m b) <;> rfl
theorem ym_6 (hY : sp_Y K R y) (hA : yr_at I y n c X) {low high : Nat → Int32} (hl : ∀ v, v < n → I (y + 5) v = low v ∧ I (y + 6) v = high v) {a m : Nat} (ha : a < n) (hm : m < c) : f_X7_isBrokenAt fu y (nI 6) (nI a) (-1) (nI m) (K, I, R, N) = some (bI (nt_mo ky low high 6 a a (nt_pv X m) (X m)), (K, I, R, N)) := by
  have h5 := hA.1
  have h6 := hA.2.1
  have hat : ∀ m, m < 120 → f_X7_at fu y (nI a) (nI m) (K, I, R, N) = some (I (y + 13) (120 * a + m), (K, I, R, N)) := fun m hm => yr_f hY (by omega) hm
  simp only [f_X7_isBrokenAt, f_X7_isBrokenAt_B27, pu_is hY.k, Option.bind_some, pu_vn0, if_true, hat m (by omega)]
  rcases hA.2.2 a ha m hm with ⟨o1, e1⟩ | ⟨q, k1, o1, i1, j1, e1, s1, t1⟩
  · rw [e1, if_pos rfl]
    simp [nt_mo, o1, bI]
  · rw [e1, if_neg (nI_m1 j1)]
    unfold f_X7_isBrokenAt_B29
    rw [if_neg (by decide : ¬ nI 6 = 3), if_neg (by decide : ¬ nI 6 = 4), if_neg (by decide : ¬ nI 6 = 5), if_pos (by decide : nI 6 = 6)]
    have hin : ∀ w : Int32, f_X7_isBrokenAt_B191 fu y (nI 6) (nI a) (-1) (nI m) (nI k1) w (K, I, R, N) = some (bI (!(decide (w = 0)) && decide (¬ (low a ≤ iI (nt_h q) ∧ iI (nt_h q) ≤ high a))), (K, I, R, N)) := by
      intro w
      simp only [f_X7_isBrokenAt_B191, f_X7_isBrokenAt_B226, f_X7_isBrokenAt_B227, pu_is hY.k, Option.bind_some, yr_h hY j1 i1 s1 t1, pu_gr hY.k hY.f5.1, pu_gr hY.k hY.f6.1, pu_li hY.f5.2 (show a < 5 by omega) (by decide), pu_li hY.f6.2 (show a < 5 by omega) (by decide), hl a ha, yr_in, bI_ite, pu_vn0, pu_vn1, if_true]
      by_cases hw : w = 0
      · simp [hw, bI]
      · by_cases hc : low a ≤ iI (nt_h q) ∧ iI (nt_h q) ≤ high a
        · simp [hw, hc, bI]
        · rw [if_neg hw, if_neg (by simpa using hc), decide_eq_false hw, decide_eq_true hc]
          rfl
    have h186 : f_X7_isBrokenAt_B186 fu y (nI 6) (nI a) (-1) (nI m) (nI k1) (K, I, R, N) = some (bI (decide (¬ (low a ≤ iI (nt_h q) ∧ iI (nt_h q) ≤ high a))), (K, I, R, N)) := by
      rw [f_X7_isBrokenAt_B186, hin, decide_eq_false (by decide : ¬ (1 : Int32) = 0)]
      rfl
    simp only [pu_is hY.k, Option.bind_some, hat m (by omega), e1, nn_eq0' (show m < 120 by omega)]
    by_cases hm0 : m = 0
    · rw [if_pos hm0]
      unfold f_X7_isBrokenAt_B144
      rw [if_pos rfl, h186]
      simp [nt_mo, nt_pv, hm0 ▸ o1, hm0]
    · rw [if_neg hm0]
      obtain ⟨m', rfl⟩ : ∃ m', m = m' + 1 := ⟨m - 1, by omega⟩
      rw [nI_pred, hat m' (by omega), Option.bind_some]
      have hpv : nt_pv X (m' + 1) a = X m' a := by simp [nt_pv]
      simp only [nt_mo, hpv, o1]
      unfold f_X7_isBrokenAt_B144
      rcases hA.2.2 a ha m' (by omega) with ⟨o2, e2⟩ | ⟨r, k2, o2, i2, j2, e2, s2, t2⟩
      · rw [e2, if_pos rfl, h186, o2]
        simp
      · have b1 := i1.1
        have b2 := i2.1
        have b3 := i1.2
        have b4 := i2.2
        simp only [e2, if_neg (nI_m1 j2), o2, pu_gr hY.k hY.f3.1, pu_gr hY.k hY.f4.1, yr_s hY j1, yr_s hY j2, yr_x hY j1, yr_x hY j2, s1, s2, t1, t2, Option.bind_some]
        by_cases c1 : r.1 = q.1
        · rw [if_pos (by rw [c1])]
          by_cases c2 : r.2 = q.2
          · rw [if_pos (by rw [c2]), hin]
            simp [c1, c2]
          · rw [if_neg (fun w => c2 ((iI_eq (by omega) (by omega) (by omega) (by omega)).mp w)), h186]
            simp [c1, c2]
        · rw [if_neg (fun w => c1 ((nI_eq (by omega) (by omega)).mp w)), h186]
          simp [c1]
end YB
