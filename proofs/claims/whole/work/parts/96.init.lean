/-! the beginning: both constructors -/
def ini {β : Type} (c a : Nat) (kk : hp_S → Option β) : List (Nat × Nat × Nat × Int32) → hp_S → Option β
  | [], z => kk z
  | e :: l, z => (ho_na e.2.1 e.2.2.1 e.2.2.2 z).bind fun ⟨r, z⟩ => (ho_pr c a e.1 r z).bind fun z => ini c a kk l z
theorem na_e {K : Nat → Nat × Nat} {I : Nat → Nat → Int32} {R : Nat → Nat → Option Nat} {N kd lim : Nat} {v : Int32} (h : ¬ (v < 0 ∨ lim < v.toNatClampNeg)) : ho_na kd lim v (K, I, R, N) = some (N, (va_up K N (kd, v.toNatClampNeg), va_up I N (fun _ => 0), va_up R N (fun _ => none), N + 1)) := by
  unfold ho_na
  rw [if_neg h]
  rfl
theorem up_at {α : Type} (f : Nat → α) (a : Nat) (v : α) : va_up f a v a = v := by simp [va_up]
theorem up_ne {α : Type} (f : Nat → α) {a b : Nat} (v : α) (h : b ≠ a) : va_up f a v b = f b := by simp [va_up, h]
def ini_l (l : List (Nat × Nat × Nat × Int32)) : Bool := l.all (fun e => decide (¬ (e.2.2.2 < 0 ∨ e.2.2.1 < e.2.2.2.toNatClampNeg))) && decide ((l.map (·.1)).Nodup)
theorem ini_ok {β : Type} {P : β → Prop} {c a m : Nat} {kk : hp_S → Option β} : ∀ (l : List (Nat × Nat × Nat × Int32)) {K : Nat → Nat × Nat} {I : Nat → Nat → Int32} {R : Nat → Nat → Option Nat} {N : Nat}, K a = (c + 3, m) → a < N → (∀ e ∈ l, ¬ (e.2.2.2 < 0 ∨ e.2.2.1 < e.2.2.2.toNatClampNeg)) → (l.map (·.1)).Nodup → (∀ K' I' R', (∀ r, r < N → K' r = K r ∧ I' r = I r) → (∀ r, r < N → r ≠ a → R' r = R r) → (∀ q, q ∉ l.map (·.1) → R' a q = R a q) → (∀ j e, l[j]? = some e → K' (N + j) = (e.2.1, e.2.2.2.toNatClampNeg) ∧ R' a e.1 = some (N + j)) → (∀ r, N ≤ r → r < N + l.length → ∀ k, I' r k = 0) → pu_ok (kk (K', I', R', N + l.length)) P) → pu_ok (ini c a kk l (K, I, R, N)) P
  | [], K, I, R, N, _, _, _, _, h => h K I R (fun _ _ => ⟨rfl, rfl⟩) (fun _ _ _ => rfl) (fun _ _ => rfl) (fun j e hj => by simp at hj) (fun r h1 h2 => absurd h2 (by simp; omega))
  | e :: l, K, I, R, N, hk, ha, hl, hn, h => by
    rw [ini, na_e (hl e List.mem_cons_self), Option.bind_some]
    have hk1 : va_up K N (e.2.1, e.2.2.2.toNatClampNeg) a = (c + 3, m) := by rw [up_ne _ _ (by omega)]; exact hk
    simp only [pu_pr hk1, Option.bind_some]
    rw [List.map_cons, List.nodup_cons] at hn
    refine ini_ok l hk1 (by omega) (fun e' he' => hl e' (List.mem_cons_of_mem _ he')) hn.2 ?_
    intro K' I' R' q1 q2 q3 q4 q5
    have hlen : N + (e :: l).length = N + 1 + l.length := by simp only [List.length_cons]; omega
    rw [← hlen]
    refine h K' I' R' (fun r hr => ?_) (fun r hr hra => ?_) (fun q hq => ?_) (fun j e' hj => ?_) (fun r h1 h2 k => ?_)
    · obtain ⟨w1, w2⟩ := q1 r (by omega)
      rw [w1, w2, up_ne _ _ (by omega), up_ne _ _ (by omega)]
      exact ⟨rfl, rfl⟩
    · rw [q2 r (by omega) hra, pu_set_row _ _ _ _ hra, up_ne _ _ (by omega)]
    · rw [List.map_cons, List.mem_cons] at hq
      rw [q3 q (fun w => hq (Or.inr w)), pu_set_off _ _ _ _ (fun w => hq (Or.inl w)), up_ne _ _ (by omega)]
    · cases j with
      | zero =>
        have he : e = e' := by simpa using hj
        subst he
        refine ⟨?_, ?_⟩
        · rw [Nat.add_zero, (q1 N (by omega)).1, up_at]
        · rw [q3 _ hn.1, pu_set_at, Nat.add_zero]
      | succ j =>
        have hj' : l[j]? = some e' := by simpa using hj
        obtain ⟨w1, w2⟩ := q4 j e' hj'
        rw [show N + (j + 1) = N + 1 + j by omega]
        exact ⟨w1, w2⟩
    · by_cases hr : r = N
      · rw [hr, (q1 N (by omega)).2, up_at]
      · exact q5 r (by omega) (by rw [← hlen]; exact h2) k
def ex (K : Nat → Nat × Nat) (I : Nat → Nat → Int32) (R : Nat → Nat → Option Nat) (N : Nat) (K' : Nat → Nat × Nat) (I' : Nat → Nat → Int32) (R' : Nat → Nat → Option Nat) (N' : Nat) : Prop := (∀ r, r < N → K' r = K r ∧ I' r = I r ∧ R' r = R r) ∧ ∀ r, N ≤ r → r < N' → ∀ k, I' r k = 0
section IN
variable {K K' : Nat → Nat × Nat} {I : Nat → Nat → Int32} {R R' : Nat → Nat → Option Nat} {N fu a : Nat} {β : Type} {P : β → Prop}
theorem ob {c : Nat} (l : List (Nat × Nat × Nat × Int32)) (hl : ini_l l = true) {kk : hp_S → Option β} (h : ∀ K' I' R', ex K I R N K' I' R' (N + 1 + l.length) → K' N = (c + 3, 0) → (∀ j e, l[j]? = some e → K' (N + 1 + j) = (e.2.1, e.2.2.2.toNatClampNeg) ∧ R' N e.1 = some (N + 1 + j)) → pu_ok (kk (K', I', R', N + 1 + l.length)) P) : pu_ok (ini c N kk l (hp_nw (K, I, R, N) (c + 3) 0)) P := by
  unfold ini_l at hl
  rw [Bool.and_eq_true, List.all_eq_true, decide_eq_true_eq] at hl
  have hz : hp_nw (K, I, R, N) (c + 3) 0 = (va_up K N (c + 3, 0), va_up I N (fun _ => 0), va_up R N (fun _ => none), N + 1) := rfl
  rw [hz]
  refine ini_ok l (up_at _ _ _) (by omega) (fun e he => of_decide_eq_true (hl.1 e he)) hl.2 ?_
  intro K' I' R' q1 q2 q3 q4 q5
  refine h K' I' R' ⟨fun r hr => ?_, fun r h1 h2 k => ?_⟩ ?_ q4
  · rw [(q1 r (by omega)).1, (q1 r (by omega)).2, q2 r (by omega) (by omega), up_ne _ _ (by omega), up_ne _ _ (by omega), up_ne _ _ (by omega)]
    exact ⟨rfl, rfl, rfl⟩
  · by_cases hr : r = N
    · rw [hr, (q1 N (by omega)).2, up_at]
    · exact q5 r (by omega) h2 k
  · rw [(q1 N (by omega)).1, up_at]
theorem o_T {kk : hp_S → Option β} (h : ∀ K' I' R', ex K I R N K' I' R' (N + 3) → sp_T K' R' N → pu_ok (kk (K', I', R', N + 3)) P) : pu_ok ((f_X5_init fu N (hp_nw (K, I, R, N) (5 + 3) 0)).bind kk) P := by
  have e : f_X5_init fu N (hp_nw (K, I, R, N) (5 + 3) 0) = ini 5 N some [(0, 1, 120, 120), (2, 1, 5, 5)] (hp_nw (K, I, R, N) (5 + 3) 0) := rfl
  rw [e]
  refine pu_bind (ob _ rfl ?_)
  intro K' I' R' q1 q2 q3
  exact pu_some (h K' I' R' q1 ⟨q2, (q3 0 _ rfl).2, (q3 1 _ rfl).2, (q3 0 _ rfl).1, (q3 1 _ rfl).1⟩)
theorem o_N4 {kk : hp_S → Option β} (h : ∀ K' I' R', ex K I R N K' I' R' (N + 3) → sp_N K' R' N 4 → pu_ok (kk (K', I', R', N + 3)) P) : pu_ok ((f_X1_init fu N 4 (hp_nw (K, I, R, N) (1 + 3) 0)).bind kk) P := by
  have e : f_X1_init fu N 4 (hp_nw (K, I, R, N) (1 + 3) 0) = ini 1 N some [(0, 1, 20, 4), (1, 1, 20, 4)] (hp_nw (K, I, R, N) (1 + 3) 0) := rfl
  rw [e]
  refine pu_bind (ob _ rfl ?_)
  intro K' I' R' q1 q2 q3
  exact pu_some (h K' I' R' q1 ⟨q2, (q3 0 _ rfl).2, (q3 1 _ rfl).2, (q3 0 _ rfl).1, (q3 1 _ rfl).1⟩)
theorem o_N20 {kk : hp_S → Option β} (h : ∀ K' I' R', ex K I R N K' I' R' (N + 3) → sp_N K' R' N 20 → pu_ok (kk (K', I', R', N + 3)) P) : pu_ok ((f_X1_init fu N 20 (hp_nw (K, I, R, N) (1 + 3) 0)).bind kk) P := by
  have e : f_X1_init fu N 20 (hp_nw (K, I, R, N) (1 + 3) 0) = ini 1 N some [(0, 1, 20, 20), (1, 1, 20, 20)] (hp_nw (K, I, R, N) (1 + 3) 0) := rfl
  rw [e]
  refine pu_bind (ob _ rfl ?_)
  intro K' I' R' q1 q2 q3
  exact pu_some (h K' I' R' q1 ⟨q2, (q3 0 _ rfl).2, (q3 1 _ rfl).2, (q3 0 _ rfl).1, (q3 1 _ rfl).1⟩)
theorem o_F {kk : hp_S → Option β} (h : ∀ K' I' R', ex K I R N K' I' R' (N + 4) → sp_F K' R' N → pu_ok (kk (K', I', R', N + 4)) P) : pu_ok ((f_X2_init fu N (hp_nw (K, I, R, N) (2 + 3) 0)).bind kk) P := by
  have e : f_X2_init fu N (hp_nw (K, I, R, N) (2 + 3) 0) = ini 2 N some [(0, 1, 1680, 1680), (1, 1, 120, 120), (3, 1, 14, 14)] (hp_nw (K, I, R, N) (2 + 3) 0) := rfl
  rw [e]
  refine pu_bind (ob _ rfl ?_)
  intro K' I' R' q1 q2 q3
  exact pu_some (h K' I' R' q1 ⟨q2, (q3 0 _ rfl).2, (q3 1 _ rfl).2, (q3 2 _ rfl).2, (q3 0 _ rfl).1, (q3 1 _ rfl).1, (q3 2 _ rfl).1⟩)
theorem o_C {kk : hp_S → Option β} (h : ∀ K' I' R', ex K I R N K' I' R' (N + 5) → sp_C K' R' N → pu_ok (kk (K', I', R', N + 5)) P) : pu_ok ((f_X0_init fu N (hp_nw (K, I, R, N) (0 + 3) 0)).bind kk) P := by
  have e : f_X0_init fu N (hp_nw (K, I, R, N) (0 + 3) 0) = ini 0 N some [(0, 2, 5, 5), (1, 1, 5, 5), (2, 1, 5, 5), (3, 1, 5, 5)] (hp_nw (K, I, R, N) (0 + 3) 0) := rfl
  rw [e]
  refine pu_bind (ob _ rfl ?_)
  intro K' I' R' q1 q2 q3
  exact pu_some (h K' I' R' q1 ⟨q2, (q3 0 _ rfl).2, (q3 1 _ rfl).2, (q3 2 _ rfl).2, (q3 3 _ rfl).2, (q3 0 _ rfl).1, (q3 1 _ rfl).1, (q3 2 _ rfl).1, (q3 3 _ rfl).1⟩)
/-- shapes stay -/
theorem sp_C.at {c : Nat} (h : sp_C K R c) (hr : ∀ r, c ≤ r → r < c + 5 → K' r = K r ∧ R' r = R r) : sp_C K' R' c := by
  unfold sp_C at *
  rw [(hr c (by omega) (by omega)).1, (hr c (by omega) (by omega)).2, (hr (c + 1) (by omega) (by omega)).1, (hr (c + 2) (by omega) (by omega)).1, (hr (c + 3) (by omega) (by omega)).1, (hr (c + 4) (by omega) (by omega)).1]
  exact h
theorem sp_F.at {c : Nat} (h : sp_F K R c) (hr : ∀ r, c ≤ r → r < c + 4 → K' r = K r ∧ R' r = R r) : sp_F K' R' c := by
  unfold sp_F at *
  rw [(hr c (by omega) (by omega)).1, (hr c (by omega) (by omega)).2, (hr (c + 1) (by omega) (by omega)).1, (hr (c + 2) (by omega) (by omega)).1, (hr (c + 3) (by omega) (by omega)).1]
  exact h
theorem sp_N.at {c n : Nat} (h : sp_N K R c n) (hr : ∀ r, c ≤ r → r < c + 3 → K' r = K r ∧ R' r = R r) : sp_N K' R' c n := by
  unfold sp_N at *
  rw [(hr c (by omega) (by omega)).1, (hr c (by omega) (by omega)).2, (hr (c + 1) (by omega) (by omega)).1, (hr (c + 2) (by omega) (by omega)).1]
  exact h
theorem sp_T.at {c : Nat} (h : sp_T K R c) (hr : ∀ r, c ≤ r → r < c + 3 → K' r = K r ∧ R' r = R r) : sp_T K' R' c := by
  unfold sp_T at *
  rw [(hr c (by omega) (by omega)).1, (hr c (by omega) (by omega)).2, (hr (c + 1) (by omega) (by omega)).1, (hr (c + 2) (by omega) (by omega)).1]
  exact h
theorem sp_P.at {c : Nat} (h : sp_P K R c) (hr : ∀ r, c ≤ r → r < c + 4 → K' r = K r ∧ R' r = R r) : sp_P K' R' c := by
  unfold sp_P at *
  rw [(hr c (by omega) (by omega)).1, (hr c (by omega) (by omega)).2, (hr (c + 1) (by omega) (by omega)).1, (hr (c + 2) (by omega) (by omega)).1, (hr (c + 3) (by omega) (by omega)).1]
  exact h
theorem sp_J.at {c : Nat} (h : sp_J K R c) (hr : ∀ r, c ≤ r → r < c + 15 → K' r = K r ∧ R' r = R r) : sp_J K' R' c := by
  obtain ⟨h1, h2, h3, h4, h5, h6⟩ := h
  refine ⟨?_, ?_, h3.at (fun r q1 q2 => hr r (by omega) (by omega)), h4.at (fun r q1 q2 => hr r (by omega) (by omega)), h5.at (fun r q1 q2 => hr r (by omega) (by omega)), ?_⟩
  · rw [(hr c (by omega) (by omega)).1]
    exact h1
  · rw [(hr c (by omega) (by omega)).2]
    exact h2
  · rw [(hr c (by omega) (by omega)).2]
    exact h6
theorem o_J {kk : hp_S → Option β} (h : ∀ K' I' R', ex K I R N K' I' R' (N + 15) → sp_J K' R' N → pu_ok (kk (K', I', R', N + 15)) P) : pu_ok ((f_X3_init fu N (hp_nw (K, I, R, N) (3 + 3) 0)).bind kk) P := by
  refine pu_bind ?_
  simp only [f_X3_init, ho_nw, Option.bind_some]
  refine o_F (K := va_up K N (3 + 3, 0)) (I := va_up I N (fun _ => 0)) (R := va_up R N (fun _ => none)) (N := N + 1) ?_
  intro K1 I1 R1 e1 s1
  have k1 : K1 N = (3 + 3, 0) := by rw [(e1.1 N (by omega)).1, up_at]
  simp only [pu_pr k1, Option.bind_some]
  refine o_C (N := N + 1 + 4) ?_
  intro K2 I2 R2 e2 s2
  have k2 : K2 N = (3 + 3, 0) := by rw [(e2.1 N (by omega)).1, k1]
  simp only [pu_pr k2, Option.bind_some]
  refine o_C (N := N + 1 + 4 + 5) ?_
  intro K3 I3 R3 e3 s3
  have k3 : K3 N = (3 + 3, 0) := by rw [(e3.1 N (by omega)).1, k2]
  simp only [pu_pr k3, Option.bind_some]
  refine pu_some (h K3 I3 _ ⟨fun r hr => ?_, fun r h1 h2 k => ?_⟩ ⟨k3, ?_, ?_, ?_, ?_, Or.inl ⟨?_, ?_⟩⟩)
  · obtain ⟨a1, a2, a3⟩ := e3.1 r (by omega)
    obtain ⟨b1, b2, b3⟩ := e2.1 r (by omega)
    obtain ⟨c1, c2, c3⟩ := e1.1 r (by omega)
    refine ⟨by rw [a1, b1, c1, up_ne _ _ (by omega)], by rw [a2, b2, c2, up_ne _ _ (by omega)], ?_⟩
    rw [pu_set_row _ _ _ _ (by omega), a3, pu_set_row _ _ _ _ (by omega), b3, pu_set_row _ _ _ _ (by omega), c3, up_ne _ _ (by omega)]
  · by_cases q3 : N + 1 + 4 + 5 ≤ r
    · exact e3.2 r q3 (by omega) k
    · rw [(e3.1 r (by omega)).2.1]
      by_cases q2 : N + 1 + 4 ≤ r
      · exact e2.2 r q2 (by omega) k
      · rw [(e2.1 r (by omega)).2.1]
        by_cases q1 : N + 1 ≤ r
        · exact e1.2 r q1 (by omega) k
        · rw [(e1.1 r (by omega)).2.1, show r = N by omega, up_at]
  · rw [pu_set_off _ _ _ _ (by decide), (e3.1 N (by omega)).2.2, pu_set_off _ _ _ _ (by decide), (e2.1 N (by omega)).2.2, pu_set_at]
    rfl
  · refine s1.at (fun r q1 q2 => ⟨by rw [(e3.1 r (by omega)).1, (e2.1 r (by omega)).1], ?_⟩)
    rw [pu_set_row _ _ _ _ (by omega), (e3.1 r (by omega)).2.2, pu_set_row _ _ _ _ (by omega), (e2.1 r (by omega)).2.2, pu_set_row _ _ _ _ (by omega)]
  · refine s2.at (fun r q1 q2 => ⟨(e3.1 r (by omega)).1, ?_⟩)
    rw [pu_set_row _ _ _ _ (by omega), (e3.1 r (by omega)).2.2, pu_set_row _ _ _ _ (by omega)]
  · exact s3.at (fun r q1 q2 => ⟨rfl, pu_set_row _ _ _ _ (by omega)⟩)
  · rw [pu_set_off _ _ _ _ (by decide), (e3.1 N (by omega)).2.2, pu_set_at]
  · rw [pu_set_at]
end IN
