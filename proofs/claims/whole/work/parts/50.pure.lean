/-! PURE: the functions of the walks, answered. pu_ok r P: r is some a, and P a. -/
def pu_ok {α : Type} (r : Option α) (P : α → Prop) : Prop := ∃ a, r = some a ∧ P a
theorem pu_some {α : Type} {a : α} {P : α → Prop} (h : P a) : pu_ok (some a) P := ⟨a, rfl, h⟩
theorem pu_bind {α β : Type} {x : Option α} {f : α → Option β} {P : β → Prop} (h : pu_ok x (fun a => pu_ok (f a) P)) : pu_ok (x.bind f) P := by
  obtain ⟨a, rfl, h⟩ := h
  exact h
theorem pu_mono {α : Type} {r : Option α} {P Q : α → Prop} (h : pu_ok r P) (hq : ∀ a, P a → Q a) : pu_ok r Q := by
  obtain ⟨a, h1, h2⟩ := h
  exact ⟨a, h1, hq a h2⟩
theorem pu_eq {α : Type} {r r' : Option α} {P : α → Prop} (e : r = r') (h : pu_ok r' P) : pu_ok r P := e ▸ h
/-- the rows of the numbers -/
theorem pu_set {α : Type} (f : Nat → Nat → α) (a k : Nat) (v : α) (b j : Nat) : hp_set f a k v b j = if b = a then (if j = k then v else f a j) else f b j := by
  unfold hp_set va_up
  by_cases h : b = a
  · simp [h]
  · simp [h]
theorem pu_set_row {α : Type} (f : Nat → Nat → α) (a k : Nat) (v : α) {b : Nat} (h : b ≠ a) : hp_set f a k v b = f b := hp_set_ne h
theorem pu_set_at {α : Type} (f : Nat → Nat → α) (a k : Nat) (v : α) : hp_set f a k v a k = v := by simp [pu_set]
theorem pu_set_off {α : Type} (f : Nat → Nat → α) (a k : Nat) (v : α) {j : Nat} (h : j ≠ k) : hp_set f a k v a j = f a j := by simp [pu_set, h]
section PU
variable {K : Nat → Nat × Nat} {I : Nat → Nat → Int32} {R : Nat → Nat → Option Nat} {N : Nat}
theorem pu_gi {c a k n : Nat} (h : K a = (c + 3, n)) : ho_gi c a k (K, I, R, N) = some (I a k) := by simp [ho_gi, h]
theorem pu_gr {c a k n o : Nat} (h : K a = (c + 3, n)) (hr : R a k = some o) : ho_gr c a k (K, I, R, N) = some o := by simp [ho_gr, h, hr]
theorem pu_pi {c a k n : Nat} {v : Int32} (h : K a = (c + 3, n)) : ho_pi c a k v (K, I, R, N) = some (K, hp_set I a k v, R, N) := by simp [ho_pi, h, hp_pI]
theorem pu_is {c a n : Nat} (h : K a = (c + 3, n)) : ho_is c a (K, I, R, N) = some () := by simp [ho_is, h]
theorem pu_ln {kd a n : Nat} (h : K a = (kd, n)) : ho_ln kd a (K, I, R, N) = some (nI n) := by simp [ho_ln, h, nI]
theorem pu_li {kd a n j : Nat} (h : K a = (kd, n)) (hj : j < n) (hn : n < 2 ^ 31) : ho_li kd a (nI j) (K, I, R, N) = some (I a j) := by
  have h1 : ¬ (nI j < 0 ∨ n ≤ (nI j).toNatClampNeg) := nI_in hj hn
  simp only [ho_li, h]
  rw [if_pos ⟨trivial, h1⟩, nI_clamp (by omega)]
theorem pu_si {a n j : Nat} {v : Int32} (h : K a = (1, n)) (hj : j < n) (hn : n < 2 ^ 31) : ho_si a (nI j) v (K, I, R, N) = some (K, hp_set I a j v, R, N) := by
  have h1 : ¬ (nI j < 0 ∨ n ≤ (nI j).toNatClampNeg) := nI_in hj hn
  simp only [ho_si, h]
  rw [if_pos ⟨trivial, h1⟩, nI_clamp (by omega)]
  rfl
theorem pu_sz {a n j : Nat} {v : Int32} (h : K a = (2, n)) (hj : j < n) (hn : n < 2 ^ 31) : ho_sz a (nI j) v (K, I, R, N) = some (K, hp_set I a j (vp_nar .boolean v), R, N) := by
  have h1 : ¬ (nI j < 0 ∨ n ≤ (nI j).toNatClampNeg) := nI_in hj hn
  simp only [ho_sz, h]
  rw [if_pos ⟨trivial, h1⟩, nI_clamp (by omega)]
  rfl
theorem pu_lr {c a n j o : Nat} (h : K a = (c + 53, n)) (hj : j < n) (hn : n < 2 ^ 31) (hr : R a j = some o) : ho_lr c a (nI j) (K, I, R, N) = some o := by
  have h1 : ¬ (nI j < 0 ∨ n ≤ (nI j).toNatClampNeg) := nI_in hj hn
  simp only [ho_lr, h]
  rw [if_pos ⟨trivial, h1⟩, nI_clamp (by omega)]
  exact hr
end PU
theorem pu_vn (b : Bool) : vp_nar .boolean (if b then 1 else 0) = (if b then 1 else 0) := by cases b <;> rfl
theorem pu_vn0 : vp_nar .boolean 0 = 0 := rfl
theorem pu_vn1 : vp_nar .boolean 1 = 1 := rfl
/-- an int by its whole number -/
def iI (n : Int) : Int32 := Int32.ofInt n
theorem iI_add (a b : Int) : iI a + iI b = iI (a + b) := (Int32.ofInt_add a b).symm
theorem iI_sub (a b : Int) : iI a - iI b = iI (a - b) := (Int32.ofInt_sub a b).symm
theorem iI_mul (a b : Int) : iI a * iI b = iI (a * b) := (Int32.ofInt_mul a b).symm
theorem iI_nat (n : Nat) : nI n = iI n := by simp [nI, iI, Int32.ofInt_eq_ofNat]
theorem iI_toInt {n : Int} (h1 : -2 ^ 31 ≤ n) (h2 : n < 2 ^ 31) : (iI n).toInt = n := Int32.toInt_ofInt_of_le h1 h2
theorem iI_of (x : Int32) : x = iI x.toInt := (Int32.ofInt_toInt x).symm
theorem iI_lt {a b : Int} (h1 : -2 ^ 31 ≤ a) (h2 : a < 2 ^ 31) (h3 : -2 ^ 31 ≤ b) (h4 : b < 2 ^ 31) : iI a < iI b ↔ a < b := by
  rw [Int32.lt_iff_toInt_lt, iI_toInt h1 h2, iI_toInt h3 h4]
theorem iI_le {a b : Int} (h1 : -2 ^ 31 ≤ a) (h2 : a < 2 ^ 31) (h3 : -2 ^ 31 ≤ b) (h4 : b < 2 ^ 31) : iI a ≤ iI b ↔ a ≤ b := by
  rw [Int32.le_iff_toInt_le, iI_toInt h1 h2, iI_toInt h3 h4]
theorem iI_eq {a b : Int} (h1 : -2 ^ 31 ≤ a) (h2 : a < 2 ^ 31) (h3 : -2 ^ 31 ≤ b) (h4 : b < 2 ^ 31) : iI a = iI b ↔ a = b :=
  ⟨fun e => by have := congrArg Int32.toInt e; rwa [iI_toInt h1 h2, iI_toInt h3 h4] at this, fun e => by rw [e]⟩
/-- a loop that counts up from i to e: its invariant, its body -/
theorem pu_for {σ α : Type} {P : α → Prop} (F : Nat → Int32 → σ → Option α) (kk : σ → Option α) (Inv : Nat → σ → Prop) (e : Nat)
    (hx : ∀ n s, Inv e s → pu_ok (kk s) P → pu_ok (F (n + 1) (nI e) s) P)
    (hs : ∀ n i s, i < e → Inv i s → (∀ s', Inv (i + 1) s' → pu_ok (F n (nI (i + 1)) s') P) → pu_ok (F (n + 1) (nI i) s) P)
    (hk : ∀ s, Inv e s → pu_ok (kk s) P) : ∀ n i s, i ≤ e → e - i < n → Inv i s → pu_ok (F n (nI i) s) P := by
  intro n
  induction n with
  | zero =>
    intro i s h1 h2
    omega
  | succ n ih =>
    intro i s h1 h2 h3
    rcases Nat.lt_or_ge i e with h | h
    · exact hs n i s h h3 (fun s' h' => ih (i + 1) s' (by omega) (by omega) h')
    · have : i = e := by omega
      subst this
      exact hx n s h3 (hk s h3)
