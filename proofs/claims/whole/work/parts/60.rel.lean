/-! THE RELATION between the class's part of the heap (from x on) and the reference's (from y on) -/
def sp_N (K : Nat → Nat × Nat) (R : Nat → Nat → Option Nat) (e len : Nat) : Prop := K e = (1 + 3, 0) ∧ R e 0 = some (e + 1) ∧ R e 1 = some (e + 2) ∧ K (e + 1) = (1, len) ∧ K (e + 2) = (1, len)
def sp_F (K : Nat → Nat × Nat) (R : Nat → Nat → Option Nat) (f : Nat) : Prop := K f = (2 + 3, 0) ∧ R f 0 = some (f + 1) ∧ R f 1 = some (f + 2) ∧ R f 3 = some (f + 3) ∧ K (f + 1) = (1, 1680) ∧ K (f + 2) = (1, 120) ∧ K (f + 3) = (1, 14)
def sp_C (K : Nat → Nat × Nat) (R : Nat → Nat → Option Nat) (c : Nat) : Prop := K c = (0 + 3, 0) ∧ R c 0 = some (c + 1) ∧ R c 1 = some (c + 2) ∧ R c 2 = some (c + 3) ∧ R c 3 = some (c + 4) ∧ K (c + 1) = (2, 5) ∧ K (c + 2) = (1, 5) ∧ K (c + 3) = (1, 5) ∧ K (c + 4) = (1, 5)
def sp_J (K : Nat → Nat × Nat) (R : Nat → Nat → Option Nat) (j : Nat) : Prop := K j = (3 + 3, 0) ∧ R j 0 = some (j + 1) ∧ sp_F K R (j + 1) ∧ sp_C K R (j + 5) ∧ sp_C K R (j + 10) ∧ ((R j 1 = some (j + 5) ∧ R j 2 = some (j + 10)) ∨ (R j 1 = some (j + 10) ∧ R j 2 = some (j + 5)))
abbrev sp_t (x n : Nat) : Nat := x + 2 + 4 * n
def sp_X (K : Nat → Nat × Nat) (R : Nat → Nat → Option Nat) (x n : Nat) : Prop := K x = (6 + 3, 0) ∧ 2 ≤ n ∧ (R x 0 = some (x + 1) ∧ sp_A K R (x + 1) n (fun v => x + 2 + 4 * v)) ∧ (R x 1 = some (sp_t x n) ∧ sp_T K R (sp_t x n)) ∧ (R x 2 = some (sp_t x n + 3) ∧ sp_N K R (sp_t x n + 3) 4) ∧ (R x 3 = some (sp_t x n + 6) ∧ sp_N K R (sp_t x n + 6) 20) ∧ (R x 4 = some (sp_t x n + 9) ∧ sp_J K R (sp_t x n + 9)) ∧ (R x 5 = some (sp_t x n + 24) ∧ sp_C K R (sp_t x n + 24))
section SPX
variable {K : Nat → Nat × Nat} {R : Nat → Nat → Option Nat} {x n : Nat}
theorem sp_X.k (h : sp_X K R x n) : K x = (6 + 3, 0) := h.1
theorem sp_X.n2 (h : sp_X K R x n) : 2 ≤ n := h.2.1
theorem sp_X.a (h : sp_X K R x n) : R x 0 = some (x + 1) ∧ sp_A K R (x + 1) n (fun v => x + 2 + 4 * v) := h.2.2.1
theorem sp_X.n5 (h : sp_X K R x n) : n ≤ 5 := h.a.2.2.1
theorem sp_X.t (h : sp_X K R x n) : R x 1 = some (sp_t x n) ∧ sp_T K R (sp_t x n) := h.2.2.2.1
theorem sp_X.r (h : sp_X K R x n) : R x 2 = some (sp_t x n + 3) ∧ sp_N K R (sp_t x n + 3) 4 := h.2.2.2.2.1
theorem sp_X.e (h : sp_X K R x n) : R x 3 = some (sp_t x n + 6) ∧ sp_N K R (sp_t x n + 6) 20 := h.2.2.2.2.2.1
theorem sp_X.j (h : sp_X K R x n) : R x 4 = some (sp_t x n + 9) ∧ sp_J K R (sp_t x n + 9) := h.2.2.2.2.2.2.1
theorem sp_X.c (h : sp_X K R x n) : R x 5 = some (sp_t x n + 24) ∧ sp_C K R (sp_t x n + 24) := h.2.2.2.2.2.2.2
theorem sp_X.p (h : sp_X K R x n) {v : Nat} (hv : v < n) : R (x + 1) v = some (x + 2 + 4 * v) ∧ sp_P K R (x + 2 + 4 * v) := h.a.2.2.2 v hv
end SPX
/-- a note, or a rest -/
def sp_note (s h : Int32) : Prop := (s = -1 ∧ h = 0) ∨ (0 ≤ s ∧ s ≤ 55 ∧ -2 ≤ h ∧ h ≤ 2)
/-- the data of both -/
abbrev rl_D : Type := (Nat → Nat) × (Nat → Nat → Nat) × (Nat → Nat → Int32) × (Nat → Nat → Int32) × (Nat → Int32) × (Nat → Int32)
def rl_ok (n : Nat) (d : rl_D) : Prop := sp_ok n d.1 d.2.1 ∧ ∀ v, v < n → ∀ i, i < d.1 v → sp_note (d.2.2.1 v i) (d.2.2.2.1 v i)
def rl_X1 (I : Nat → Nat → Int32) (x n : Nat) (d : rl_D) : Prop := ∀ v, v < n → I (x + 2 + 4 * v) 3 = nI (d.1 v) ∧ I (x + 2 + 4 * v) 4 = d.2.2.2.2.1 v ∧ I (x + 2 + 4 * v) 5 = d.2.2.2.2.2 v ∧ ∀ i, i < d.1 v → I (x + 2 + 4 * v + 1) i = nI (d.2.1 v i) ∧ I (x + 2 + 4 * v + 2) i = d.2.2.1 v i ∧ I (x + 2 + 4 * v + 3) i = d.2.2.2.1 v i
def rl_Y1 (I : Nat → Nat → Int32) (y n : Nat) (d : rl_D) : Prop := I y 0 = nI n ∧ ∀ v, v < n → I (y + 1) v = nI (d.1 v) ∧ I (y + 5) v = d.2.2.2.2.1 v ∧ I (y + 6) v = d.2.2.2.2.2 v ∧ ∀ i, i < d.1 v → I (y + 2) (24 * v + i) = nI (d.2.1 v i) ∧ I (y + 3) (24 * v + i) = d.2.2.1 v i ∧ I (y + 4) (24 * v + i) = d.2.2.2.1 v i
/-- rules, key, grid -/
def rl_2 (I : Nat → Nat → Int32) (x y : Nat) (rb ky : Int32) (g : Nat) : Prop := I x 6 = rb ∧ I x 7 = ky ∧ I x 8 = nI g ∧ (∀ k, k < 14 → I (y + 7) k = ((rb >>> (nI k &&& 31)) &&& 1)) ∧ I y 8 = ky ∧ I y 9 = nI g ∧ (g = 0 ∨ 10 ≤ g ∧ g ≤ 500) ∧ -7 ≤ ky ∧ ky ≤ 7
/-- couples: of a class's Entries at e, of the reference's count at y, k and rows at b, b + 1 -/
def rl_3 (I : Nat → Nat → Int32) (e y k b most : Nat) (c : Nat) (p q : Nat → Nat) : Prop := c ≤ most ∧ I e 2 = nI c ∧ I y k = nI c ∧ ∀ i, i < c → I (e + 1) i = nI (p i) ∧ I (e + 2) i = nI (q i) ∧ I b i = nI (p i) ∧ I (b + 1) i = nI (q i) ∧ p i < 1000 ∧ q i < 1000
/-- the class's moments -/
def rl_4 (I : Nat → Nat → Int32) (t : Nat) (M : Nat → Prop) : Prop := ∃ (c : Nat) (T : Nat → Nat), I t 1 = nI c ∧ c ≤ 120 ∧ (∀ j, j < c → I (t + 1) j = nI (T j) ∧ T j < 1000) ∧ sp_M M c T
/-- a mark's bit, its code -/
def rl_bit (m : Int32) (b : Nat) : Bool := m.toBitVec.getLsbD b
def rl_code (c b : Nat) : Nat := 1000 * (c / 14) + 50 * (c % 14) + 7 * (b / 5) + (if b / 5 = b % 5 then 0 else b % 5 + 1)
def rl_cell (mk : Nat → Int32) (c : Nat) : List Nat := ((List.range 25).filter (fun b => rl_bit (mk c) b)).map (rl_code c)
def rl_list (mk : Nat → Int32) : Nat → List Nat
  | 0 => []
  | c + 1 => rl_list mk c ++ rl_cell mk c
/-- what was judged: findings at f, the reference's rows -/
def rl_J (I : Nat → Nat → Int32) (f y : Nat) : Prop := ∃ jm : Nat, jm ≤ 120 ∧ I f 2 = nI jm ∧ (∀ i, i < jm → I (f + 2) i = I (y + 15) i) ∧ (∀ c, c < jm * 14 → ∀ b, 25 ≤ b → rl_bit (I (f + 1) c) b = false) ∧ (rl_list (I (f + 1)) (jm * 14)).length ≤ 12300 ∧ I f 4 = nI (rl_list (I (f + 1)) (jm * 14)).length ∧ I y 19 = nI (rl_list (I (f + 1)) (jm * 14)).length ∧ (∀ i, i < (rl_list (I (f + 1)) (jm * 14)).length → I (y + 14) i = nI ((rl_list (I (f + 1)) (jm * 14)).getD i 0)) ∧ I f 5 = I y 20 ∧ ∀ k, k < 14 → I (f + 3) k = nI (((rl_list (I (f + 1)) (jm * 14)).filter (fun q => q % 1000 / 50 = k)).length)
/-- all of it -/
def rl_W (K : Nat → Nat × Nat) (I : Nat → Nat → Int32) (R : Nat → Nat → Option Nat) (x y n : Nat) (d : rl_D) (rb ky : Int32) (g rc : Nat) (rf rt : Nat → Nat) (xc : Nat) (xk xt : Nat → Nat) : Prop := sp_X K R x n ∧ sp_Y K R y ∧ y = sp_t x n + 29 ∧ rl_ok n d ∧ rl_X1 I x n d ∧ rl_Y1 I y n d ∧ rl_2 I x y rb ky g ∧ (rl_3 I (sp_t x n + 3) y 10 (y + 8) 4 rc rf rt ∧ ∀ i, i < rc → rf i < rt i) ∧ (rl_3 I (sp_t x n + 6) y 13 (y + 10) 20 xc xk xt ∧ ∀ i, i < xc → xk i < 14) ∧ rl_4 I (sp_t x n) (sp_isM n d.1 d.2.1 g) ∧ rl_J I (sp_t x n + 10) y
def rl_V (x y : Nat) (z : hp_S) : Prop := ∃ K I R N n d rb ky g rc rf rt xc xk xt, z = (K, I, R, N) ∧ rl_W K I R x y n d rb ky g rc rf rt xc xk xt
/-! what stays -/
theorem rl_X1.keep {I I' : Nat → Nat → Int32} {x n : Nat} {d : rl_D} (h : rl_X1 I x n d) (hk : ∀ b, x + 2 ≤ b → b < sp_t x n → I' b = I b) : rl_X1 I' x n d := by
  intro v hv
  have ht : sp_t x n = x + 2 + 4 * n := rfl
  rw [hk _ (by omega) (by omega), hk (x + 2 + 4 * v + 1) (by omega) (by omega), hk (x + 2 + 4 * v + 2) (by omega) (by omega), hk (x + 2 + 4 * v + 3) (by omega) (by omega)]
  exact h v hv
theorem rl_Y1.keep {I I' : Nat → Nat → Int32} {y n : Nat} {d : rl_D} (h : rl_Y1 I y n d) (h0 : I' y 0 = I y 0) (hk : ∀ b, y < b → b ≤ y + 6 → I' b = I b) : rl_Y1 I' y n d := by
  refine ⟨by rw [h0]; exact h.1, fun v hv => ?_⟩
  rw [hk _ (by omega) (by omega), hk (y + 2) (by omega) (by omega), hk (y + 3) (by omega) (by omega), hk (y + 4) (by omega) (by omega), hk (y + 5) (by omega) (by omega), hk (y + 6) (by omega) (by omega)]
  exact h.2 v hv
theorem rl_2.keep {I I' : Nat → Nat → Int32} {x y : Nat} {rb ky : Int32} {g : Nat} (h : rl_2 I x y rb ky g) (h1 : I' x = I x) (h2 : I' (y + 7) = I (y + 7)) (h3 : I' y 8 = I y 8) (h4 : I' y 9 = I y 9) : rl_2 I' x y rb ky g := by
  unfold rl_2
  rw [h1, h2, h3, h4]
  exact h
theorem rl_3.keep {I I' : Nat → Nat → Int32} {e y k b most c : Nat} {p q : Nat → Nat} (h : rl_3 I e y k b most c p q) (h1 : I' e = I e) (h2 : I' (e + 1) = I (e + 1)) (h3 : I' (e + 2) = I (e + 2)) (h4 : I' y k = I y k) (h5 : I' b = I b) (h6 : I' (b + 1) = I (b + 1)) : rl_3 I' e y k b most c p q := by
  unfold rl_3
  rw [h1, h2, h3, h4, h5, h6]
  exact h
theorem rl_4.keep {I I' : Nat → Nat → Int32} {t : Nat} {M : Nat → Prop} (h : rl_4 I t M) (h1 : I' t 1 = I t 1) (h2 : I' (t + 1) = I (t + 1)) : rl_4 I' t M := by
  unfold rl_4
  rw [h1, h2]
  exact h
theorem rl_J.keep {I I' : Nat → Nat → Int32} {f y : Nat} (h : rl_J I f y) (h1 : I' f = I f) (h2 : I' (f + 1) = I (f + 1)) (h3 : I' (f + 2) = I (f + 2)) (h4 : I' (f + 3) = I (f + 3)) (h5 : I' y 19 = I y 19) (h6 : I' y 20 = I y 20) (h7 : I' (y + 14) = I (y + 14)) (h8 : I' (y + 15) = I (y + 15)) : rl_J I' f y := by
  unfold rl_J
  rw [h1, h2, h3, h4, h5, h6, h7, h8]
  exact h
/-- the reference has worked on its own rows of moments alone -/
theorem rl_W.scratch {K : Nat → Nat × Nat} {I I' : Nat → Nat → Int32} {R : Nat → Nat → Option Nat} {x y n : Nat} {d : rl_D} {rb ky : Int32} {g rc : Nat} {rf rt : Nat → Nat} {xc : Nat} {xk xt : Nat → Nat} (h : rl_W K I R x y n d rb ky g rc rf rt xc xk xt) (h1 : ∀ b, b ≠ y → b ≠ y + 12 → b ≠ y + 13 → I' b = I b) (h2 : ∀ k, k ≠ 16 → I' y k = I y k) : rl_W K I' R x y n d rb ky g rc rf rt xc xk xt := by
  obtain ⟨a1, a2, a3, a4, a5, a6, a7, a8, a9, a10, a11⟩ := h
  have ht : sp_t x n = x + 2 + 4 * n := rfl
  have h1' : ∀ b, b < y → I' b = I b := fun b hb => h1 b (by omega) (by omega) (by omega)
  refine ⟨a1, a2, a3, a4, a5.keep (fun b _ q => h1' b (by omega)), a6.keep (h2 0 (by decide)) (fun b q1 q2 => h1 b (by omega) (by omega) (by omega)), a7.keep (h1' _ (by omega)) (h1 _ (by omega) (by omega) (by omega)) (h2 _ (by decide)) (h2 _ (by decide)), ⟨a8.1.keep (h1' _ (by omega)) (h1' _ (by omega)) (h1' _ (by omega)) (h2 _ (by decide)) (h1 _ (by omega) (by omega) (by omega)) (h1 _ (by omega) (by omega) (by omega)), a8.2⟩, ⟨a9.1.keep (h1' _ (by omega)) (h1' _ (by omega)) (h1' _ (by omega)) (h2 _ (by decide)) (h1 _ (by omega) (by omega) (by omega)) (h1 _ (by omega) (by omega) (by omega)), a9.2⟩, a10.keep (by rw [h1' _ (by omega)]) (h1' _ (by omega)), a11.keep (h1' _ (by omega)) (h1' _ (by omega)) (h1' _ (by omega)) (h1' _ (by omega)) (h2 _ (by decide)) (h2 _ (by decide)) (h1 _ (by omega) (by omega) (by omega)) (h1 _ (by omega) (by omega) (by omega))⟩
