/-! the reference judges: its list of faults -/
def jb (n : Nat) (on : Nat → Bool) (br : Nat → Nat → Nat → Nat → Bool) (c b : Nat) : Bool := on (c % 14) && (decide (b / 5 < n ∧ b % 5 < n) && br (c / 14) (c % 14) (b / 5) (b % 5))
def ju (E : Bool) (s : List Nat × Nat) (S : List Nat) : List Nat × Nat := if E then (s.1, s.2 + S.length) else (s.1 ++ S, s.2)
theorem ju_app (E : Bool) (s : List Nat × Nat) (S S' : List Nat) : ju E (ju E s S) S' = ju E s (S ++ S') := by
  cases E <;> simp [ju, Nat.add_assoc]
theorem ju_nil (E : Bool) (s : List Nat × Nat) : ju E s [] = s := by cases E <;> simp [ju]
def jc (p : Nat → Bool) (c : Nat) : List Nat := ((List.range 25).filter p).map (rl_code c)
def jE (xk xt T : Nat → Nat) (i c : Nat) : Bool := jd_any (fun i => decide (xk i = c % 14 ∧ xt i = T (c / 14))) i
def jf (E : Nat → Bool) (p : Nat → Nat → Bool) : Nat → List Nat × Nat
  | 0 => ([], 0)
  | c + 1 => ju (E c) (jf E p c) (jc (p c) c)
theorem jd_any_iff {f : Nat → Bool} : ∀ {r : Nat}, jd_any f r = true ↔ ∃ i, i < r ∧ f i = true
  | 0 => ⟨fun h => absurd h Bool.false_ne_true, fun ⟨i, h, _⟩ => absurd h (Nat.not_lt_zero _)⟩
  | r + 1 => by
    rw [jd_any, Bool.or_eq_true, jd_any_iff]
    refine ⟨fun h => ?_, fun ⟨i, h1, h2⟩ => ?_⟩
    · rcases h with ⟨i, h1, h2⟩ | h
      · exact ⟨i, by omega, h2⟩
      · exact ⟨r, by omega, h⟩
    · rcases Nat.lt_or_ge i r with q | q
      · exact Or.inl ⟨i, q, h2⟩
      · have : i = r := by omega
        rw [← this]
        exact Or.inr h2
/-- one after the other -/
def jr (f : Nat → Bool) (g : Nat → Nat) : Nat → Nat → List Nat
  | 0, _ => []
  | s + 1, b => (if f b then [g b] else []) ++ jr f g s (b + 1)
def jg (n : Nat) (al : Bool) (p : Nat → Bool) (g : Nat → Nat) (a : Nat) : List Nat := (if al && p (5 * a + a) then [g (5 * a + a)] else []) ++ jr (fun b => !al && p (5 * a + b)) (fun b => g (5 * a + b)) n 0
def jh (n : Nat) (al : Bool) (p : Nat → Bool) (g : Nat → Nat) : Nat → Nat → List Nat
  | 0, _ => []
  | s + 1, a => jg n al p g a ++ jh n al p g s (a + 1)
theorem jr_f {f : Nat → Bool} {g : Nat → Nat} (h : ∀ b, f b = false) : ∀ s b, jr f g s b = []
  | 0, _ => rfl
  | s + 1, b => by rw [jr, h b, jr_f h s (b + 1)]; rfl
def jt (p : Nat → Bool) (g : Nat → Nat) (x : Nat) : List Nat := if p x then [g x] else []
theorem jt_f {p : Nat → Bool} {g : Nat → Nat} {x : Nat} (h : p x = false) : jt p g x = [] := by unfold jt; rw [h]; rfl
theorem jc_unroll (p : Nat → Bool) (g : Nat → Nat) : ∀ l : List Nat, (l.filter p).map g = (l.map (jt p g)).flatten
  | [] => rfl
  | x :: l => by
    rw [List.map_cons, List.flatten_cons, ← jc_unroll p g l, List.filter_cons]
    unfold jt
    cases p x <;> simp
def jq (p : Nat → Bool) (g : Nat → Nat) (a : Nat) : Nat → Nat → List Nat
  | 0, _ => []
  | s + 1, b => jt p g (5 * a + b) ++ jq p g a s (b + 1)
theorem jq_e {p : Nat → Bool} {g : Nat → Nat} : ∀ s b a, jr (fun b => !false && p (5 * a + b)) (fun b => g (5 * a + b)) s b = jq p g a s b
  | 0, _, _ => rfl
  | s + 1, b, a => by
    rw [jr, jq, jq_e s (b + 1) a]
    rfl
theorem r_25 : List.range 25 = [0, 1, 2, 3, 4, 5, 6, 7, 8, 9, 10, 11, 12, 13, 14, 15, 16, 17, 18, 19, 20, 21, 22, 23, 24] := by decide
theorem jh_jc {n : Nat} (h2 : 2 ≤ n) (h5 : n ≤ 5) {al : Bool} {p : Nat → Bool} {c : Nat} (hp : ∀ x, x < 25 → ¬ (x / 5 < n ∧ x % 5 < n) → p x = false) (ha : al = true → ∀ x, x < 25 → x / 5 ≠ x % 5 → p x = false) (hn : al = false → ∀ x, x < 25 → x / 5 = x % 5 → p x = false) : jh n al p (rl_code c) n 0 = jc p c := by
  unfold jc
  rw [jc_unroll, r_25]
  generalize rl_code c = g
  cases al with
  | true =>
    have ha := ha rfl
    have e : ∀ a, jg n true p g a = jt p g (5 * a + a) := fun a => by
      unfold jg
      rw [jr_f (f := fun b => !true && p (5 * a + b)) (fun b => rfl), List.append_nil]
      rfl
    have e2 : ∀ s a, jh n true p g s a = match s with | 0 => [] | s' + 1 => jt p g (5 * a + a) ++ jh n true p g s' (a + 1) := fun s a => by
      cases s with
      | zero => rfl
      | succ s => rw [jh, e]
    have hz : ∀ x, x < 25 → x ≠ 0 → x ≠ 6 → x ≠ 12 → x ≠ 18 → x ≠ 24 → jt p g x = [] := fun x hx _ _ _ _ _ => jt_f (ha x hx (by omega))
    have hn4 : n = 2 ∨ n = 3 ∨ n = 4 ∨ n = 5 := by omega
    simp only [List.map_cons, List.map_nil, List.flatten_cons, List.flatten_nil]
    rw [hz 1 (by decide) (by decide) (by decide) (by decide) (by decide) (by decide), hz 2 (by decide) (by decide) (by decide) (by decide) (by decide) (by decide), hz 3 (by decide) (by decide) (by decide) (by decide) (by decide) (by decide), hz 4 (by decide) (by decide) (by decide) (by decide) (by decide) (by decide), hz 5 (by decide) (by decide) (by decide) (by decide) (by decide) (by decide), hz 7 (by decide) (by decide) (by decide) (by decide) (by decide) (by decide), hz 8 (by decide) (by decide) (by decide) (by decide) (by decide) (by decide), hz 9 (by decide) (by decide) (by decide) (by decide) (by decide) (by decide), hz 10 (by decide) (by decide) (by decide) (by decide) (by decide) (by decide), hz 11 (by decide) (by decide) (by decide) (by decide) (by decide) (by decide), hz 13 (by decide) (by decide) (by decide) (by decide) (by decide) (by decide), hz 14 (by decide) (by decide) (by decide) (by decide) (by decide) (by decide), hz 15 (by decide) (by decide) (by decide) (by decide) (by decide) (by decide), hz 16 (by decide) (by decide) (by decide) (by decide) (by decide) (by decide), hz 17 (by decide) (by decide) (by decide) (by decide) (by decide) (by decide), hz 19 (by decide) (by decide) (by decide) (by decide) (by decide) (by decide), hz 20 (by decide) (by decide) (by decide) (by decide) (by decide) (by decide), hz 21 (by decide) (by decide) (by decide) (by decide) (by decide) (by decide), hz 22 (by decide) (by decide) (by decide) (by decide) (by decide) (by decide), hz 23 (by decide) (by decide) (by decide) (by decide) (by decide) (by decide)]
    have hk : ∀ x, x < 25 → ¬ (x / 5 < n ∧ x % 5 < n) → jt p g x = [] := fun x hx h => jt_f (hp x hx h)
    rcases hn4 with rfl | rfl | rfl | rfl
    · simp only [e2, hk 12 (by decide) (by decide), hk 18 (by decide) (by decide), hk 24 (by decide) (by decide), List.nil_append, List.append_nil, Nat.reduceMul, Nat.reduceAdd]
    · simp only [e2, hk 18 (by decide) (by decide), hk 24 (by decide) (by decide), List.nil_append, List.append_nil, Nat.reduceMul, Nat.reduceAdd]
    · simp only [e2, hk 24 (by decide) (by decide), List.nil_append, List.append_nil, Nat.reduceMul, Nat.reduceAdd]
    · simp only [e2, List.nil_append, List.append_nil, Nat.reduceMul, Nat.reduceAdd]
  | false =>
    have hk : ∀ x, x < 25 → ¬ (x / 5 < n ∧ x % 5 < n) → jt p g x = [] := fun x hx h => jt_f (hp x hx h)
    have e1 : ∀ a, jg n false p g a = jq p g a n 0 := fun a => jq_e n 0 a
    have e2 : ∀ s a, jh n false p g s a = match s with | 0 => [] | s' + 1 => jq p g a n 0 ++ jh n false p g s' (a + 1) := fun s a => by
      cases s with
      | zero => rfl
      | succ s => rw [jh, e1]
    have hn4 : n = 2 ∨ n = 3 ∨ n = 4 ∨ n = 5 := by omega
    simp only [List.map_cons, List.map_nil, List.flatten_cons, List.flatten_nil]
    rcases hn4 with rfl | rfl | rfl | rfl
    · rw [hk 2 (by decide) (by decide), hk 3 (by decide) (by decide), hk 4 (by decide) (by decide), hk 7 (by decide) (by decide), hk 8 (by decide) (by decide), hk 9 (by decide) (by decide), hk 10 (by decide) (by decide), hk 11 (by decide) (by decide), hk 12 (by decide) (by decide), hk 13 (by decide) (by decide), hk 14 (by decide) (by decide), hk 15 (by decide) (by decide), hk 16 (by decide) (by decide), hk 17 (by decide) (by decide), hk 18 (by decide) (by decide), hk 19 (by decide) (by decide), hk 20 (by decide) (by decide), hk 21 (by decide) (by decide), hk 22 (by decide) (by decide), hk 23 (by decide) (by decide), hk 24 (by decide) (by decide)]
      simp only [e2, jq, List.nil_append, List.append_nil, List.append_assoc, Nat.reduceMul, Nat.reduceAdd]
    · rw [hk 3 (by decide) (by decide), hk 4 (by decide) (by decide), hk 8 (by decide) (by decide), hk 9 (by decide) (by decide), hk 13 (by decide) (by decide), hk 14 (by decide) (by decide), hk 15 (by decide) (by decide), hk 16 (by decide) (by decide), hk 17 (by decide) (by decide), hk 18 (by decide) (by decide), hk 19 (by decide) (by decide), hk 20 (by decide) (by decide), hk 21 (by decide) (by decide), hk 22 (by decide) (by decide), hk 23 (by decide) (by decide), hk 24 (by decide) (by decide)]
      simp only [e2, jq, List.nil_append, List.append_nil, List.append_assoc, Nat.reduceMul, Nat.reduceAdd]
    · rw [hk 4 (by decide) (by decide), hk 9 (by decide) (by decide), hk 14 (by decide) (by decide), hk 19 (by decide) (by decide), hk 20 (by decide) (by decide), hk 21 (by decide) (by decide), hk 22 (by decide) (by decide), hk 23 (by decide) (by decide), hk 24 (by decide) (by decide)]
      simp only [e2, jq, List.nil_append, List.append_nil, List.append_assoc, Nat.reduceMul, Nat.reduceAdd]
    · simp only [e2, jq, List.nil_append, List.append_nil, List.append_assoc, Nat.reduceMul, Nat.reduceAdd]
