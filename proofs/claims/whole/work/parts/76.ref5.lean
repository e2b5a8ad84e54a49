/-! the reference: isBroken -/
def ya (n k a b : Nat) (B : Int32) : Prop := (B = nI b ∧ b < n ∧ nt_al k = false ∧ nt_ab n k a b = true) ∨ (B = -1 ∧ b = a ∧ nt_al k = true ∧ nt_ab n k a a = true)
theorem ya.b {n k a b : Nat} {B : Int32} (h : ya n k a b B) (ha : a < n) : b < n ∧ nt_ab n k a b = true := by
  rcases h with ⟨-, h1, -, h2⟩ | ⟨-, rfl, -, h2⟩
  · exact ⟨h1, h2⟩
  · exact ⟨ha, h2⟩
/-- the first moment that isn't before u; behind the last one before u -/
def fi_n (T : Nat → Nat) (u : Nat) : Nat → Nat → Nat
  | 0, j => j
  | k + 1, j => if T j < u then fi_n T u k (j + 1) else j
def la_n (T : Nat → Nat) (u : Nat) : Nat → Nat
  | 0 => 0
  | j + 1 => if u ≤ T j then la_n T u j else j + 1
theorem fi_le (T : Nat → Nat) (u : Nat) : ∀ k j, fi_n T u k j ≤ k + j
  | 0, j => by unfold fi_n; omega
  | k + 1, j => by
    unfold fi_n
    split
    · have := fi_le T u k (j + 1)
      omega
    · omega
theorem la_le (T : Nat → Nat) (u : Nat) : ∀ j, la_n T u j ≤ j
  | 0 => Nat.le_refl _
  | j + 1 => by
    unfold la_n
    split
    · have := la_le T u j
      omega
    · omega
def jd_rp (n : Nat) (ky : Int) (X : Nat → Nat → Option nt_T) (T : Nat → Nat) (c : Nat) (rf rt : Nat → Nat) (m k a b i : Nat) : Bool := decide (fi_n T (rf i) c 0 = m ∧ fi_n T (rf i) c 0 < la_n T (rt i) c) && nt_pr n ky k a b (X (la_n T (rt i) c - 1)) (X m)
def jd_any (f : Nat → Bool) : Nat → Bool
  | 0 => false
  | i + 1 => jd_any f i || f i
def jd_br (n : Nat) (ky : Int) (low high : Nat → Int32) (X : Nat → Nat → Option nt_T) (T : Nat → Nat) (c rc : Nat) (rf rt : Nat → Nat) (m k a b : Nat) : Bool := nt_mo ky low high k a b (nt_pv X m) (X m) || (nt_pr n ky k a b (nt_pv X m) (X m) || jd_any (jd_rp n ky X T c rf rt m k a b) rc)
/-- the reference, when it judges -/
def yc (K : Nat → Nat × Nat) (I : Nat → Nat → Int32) (R : Nat → Nat → Option Nat) (y n c : Nat) (X : Nat → Nat → Option nt_T) (T : Nat → Nat) (ky : Int) (low high : Nat → Int32) (rc : Nat) (rf rt : Nat → Nat) : Prop := sp_Y K R y ∧ yr_at I y n c X ∧ I y 0 = nI n ∧ 2 ≤ n ∧ (I y 8 = iI ky ∧ -7 ≤ ky ∧ ky ≤ 7) ∧ (∀ v, v < n → I (y + 5) v = low v ∧ I (y + 6) v = high v) ∧ I y 16 = nI c ∧ (∀ j, j < c → I (y + 12) j = nI (T j) ∧ T j < 1000) ∧ (I y 10 = nI rc ∧ rc ≤ 4 ∧ ∀ i, i < rc → I (y + 8) i = nI (rf i) ∧ I (y + 9) i = nI (rt i) ∧ rf i < 1000 ∧ rt i < 1000)
theorem nt_pr_mk {n : Nat} {ky : Int} {k a b : Nat} {X Y : Nat → Option nt_T} (h : nt_mk k = true) : nt_pr n ky k a b X Y = false := by
  have : k = 3 ∨ k = 5 ∨ k = 6 ∨ k = 9 ∨ k = 13 := by
    simp [nt_mk] at h
    omega
  rcases this with rfl | rfl | rfl | rfl | rfl <;> rfl
theorem nt_mo_mk {ky : Int} {low high : Nat → Int32} {k a b : Nat} {X Y : Nat → Option nt_T} (h : nt_mk k = false) (hk : k < 14) : nt_mo ky low high k a b X Y = false := by
  rcases kc_14 hk with rfl | rfl | rfl | rfl | rfl | rfl | rfl | rfl | rfl | rfl | rfl | rfl | rfl | rfl <;> first | rfl | exact absurd h (by decide)
theorem jd_any_f {f : Nat → Bool} (h : ∀ i, f i = false) : ∀ r, jd_any f r = false
  | 0 => rfl
  | r + 1 => by rw [jd_any, jd_any_f h r, h r]; rfl
section YI
variable {K : Nat → Nat × Nat} {I : Nat → Nat → Int32} {R : Nat → Nat → Option Nat} {N fu y n c : Nat} {X : Nat → Nat → Option nt_T} {T : Nat → Nat} {ky : Int} {low high : Nat → Int32} {rc : Nat} {rf rt : Nat → Nat}
theorem yi_pr (h : yc K I R y n c X T ky low high rc rf rt) {k a b m m' : Nat} {B : Int32} (hk : k < 14) (hkm : nt_mk k = false) (ha : a < n) (hy : ya n k a b B) (hm : m < c) (hm' : m' < c) : f_X7_isPairBroken fu y (nI k) (nI a) B (nI m) (nI m') (K, I, R, N) = some (bI (nt_pr n ky k a b (X m) (X m')), (K, I, R, N)) := by
  obtain ⟨hY, hA, h0, h2, ⟨h8, h8a, h8b⟩, -⟩ := h
  rcases kc_14 hk with rfl | rfl | rfl | rfl | rfl | rfl | rfl | rfl | rfl | rfl | rfl | rfl | rfl | rfl
  · rcases hy with ⟨rfl, hb, -, q⟩ | ⟨-, -, q, -⟩
    · rw [yp_0 hY hA ha hb hm hm']
      have q : a < b := by simpa [nt_ab] using q
      simp [nt_pr, q]
    · exact absurd q (by decide)
  · rcases hy with ⟨rfl, hb, -, q⟩ | ⟨-, -, q, -⟩
    · rw [yp_1 hY hA ha hb hm hm']
      have q : a < b := by simpa [nt_ab] using q
      simp [nt_pr, q]
    · exact absurd q (by decide)
  · rcases hy with ⟨rfl, hb, -, q⟩ | ⟨-, -, q, -⟩
    · rw [yp_2 hY hA ha hb hm hm']
      have q : a = 0 ∧ b = n - 1 := by simpa [nt_ab] using q
      simp [nt_pr, q]
    · exact absurd q (by decide)
  · exact absurd hkm (by decide)
  · rcases hy with ⟨rfl, hb, -, q⟩ | ⟨-, -, q, -⟩
    · rw [yp_4 hY hA ha hb hm hm']
      have q : b = a + 1 := by simpa [nt_ab] using q
      simp [nt_pr, q]
    · exact absurd q (by decide)
  · exact absurd hkm (by decide)
  · exact absurd hkm (by decide)
  · rcases hy with ⟨-, -, q, -⟩ | ⟨rfl, rfl, -, q⟩
    · exact absurd q (by decide)
    · rw [yp_7 hY hA ha hm hm']
      have q : True := by simpa [nt_ab] using q
      simp [nt_pr, q]
  · rcases hy with ⟨-, -, q, -⟩ | ⟨rfl, rfl, -, q⟩
    · exact absurd q (by decide)
    · rw [yp_8 hY hA h8 h8a h8b ha hm hm']
      have q : True := by simpa [nt_ab] using q
      simp [nt_pr, q]
  · exact absurd hkm (by decide)
  · rcases hy with ⟨-, -, q, -⟩ | ⟨rfl, rfl, -, q⟩
    · exact absurd q (by decide)
    · rw [yp_10 hY hA ha hm hm']
      have q : 0 < b := by simpa [nt_ab] using q
      simp [nt_pr, q]
  · rcases hy with ⟨rfl, hb, -, q⟩ | ⟨-, -, q, -⟩
    · rw [yp_11 hY hA ha hb hm hm']
      have q : a ≠ b := by simpa [nt_ab] using q
      simp [nt_pr, q]
    · exact absurd q (by decide)
  · rcases hy with ⟨rfl, hb, -, q⟩ | ⟨-, -, q, -⟩
    · rw [yp_12 hY hA ha hb hm hm']
      have q : a < b := by simpa [nt_ab] using q
      simp [nt_pr, q]
    · exact absurd q (by decide)
  · exact absurd hkm (by decide)
theorem yi_mo (h : yc K I R y n c X T ky low high rc rf rt) {k a b m : Nat} {B : Int32} (hk : k < 14) (hkm : nt_mk k = true) (ha : a < n) (hy : ya n k a b B) (hm : m < c) : f_X7_isBrokenAt fu y (nI k) (nI a) B (nI m) (K, I, R, N) = some (bI (nt_mo ky low high k a b (nt_pv X m) (X m)), (K, I, R, N)) := by
  obtain ⟨hY, hA, h0, h2, ⟨h8, h8a, h8b⟩, hl, -⟩ := h
  rcases kc_14 hk with rfl | rfl | rfl | rfl | rfl | rfl | rfl | rfl | rfl | rfl | rfl | rfl | rfl | rfl
  · exact absurd hkm (by decide)
  · exact absurd hkm (by decide)
  · exact absurd hkm (by decide)
  · rcases hy with ⟨rfl, hb, -, q⟩ | ⟨-, -, q, -⟩
    · rw [ym_3 hY hA ha hb hm]
      have q : a < b := by simpa [nt_ab] using q
      simp [nt_mo, q]
    · exact absurd q (by decide)
  · exact absurd hkm (by decide)
  · rcases hy with ⟨rfl, hb, -, q⟩ | ⟨-, -, q, -⟩
    · rw [ym_5 hY hA ha hb hm]
      have q : b = a + 1 := by simpa [nt_ab] using q
      simp [nt_mo, q]
    · exact absurd q (by decide)
  · rcases hy with ⟨-, -, q, -⟩ | ⟨rfl, rfl, -, q⟩
    · exact absurd q (by decide)
    · exact ym_6 hY hA hl ha hm
  · exact absurd hkm (by decide)
  · exact absurd hkm (by decide)
  · rcases hy with ⟨rfl, hb, -, q⟩ | ⟨-, -, q, -⟩
    · rw [ym_9 hY hA h8 h8a h8b ha hb hm]
      have q : a < b := by simpa [nt_ab] using q
      simp [nt_mo, q]
    · exact absurd q (by decide)
  · exact absurd hkm (by decide)
  · exact absurd hkm (by decide)
  · exact absurd hkm (by decide)
  · rcases hy with ⟨rfl, hb, -, q⟩ | ⟨-, -, q, -⟩
    · rw [ym_13 hY hA ha hb hm]
      have q : b = a + 1 := by simpa [nt_ab] using q
      simp [nt_mo, q]
    · exact absurd q (by decide)
theorem yi_first (h : yc K I R y n c X T ky low high rc rf rt) {i : Nat} (hi : i < rc) (a1 a2 a3 a4 : Int32) (kk : Int32 → Int32 → hp_S → Option (Int32 × hp_S)) : ∀ (s w j : Nat), j + s = c → s < w → f_X7_isBroken_L65 fu y a1 a2 a3 a4 kk w (nI i) (nI j) (K, I, R, N) = kk (nI i) (nI (fi_n T (rf i) s j)) (K, I, R, N) := by
  obtain ⟨hY, hA, h0, h2, -, -, h16, hT, hr0, hr1, hr⟩ := h
  have hc := hA.2.1
  intro s
  induction s with
  | zero =>
    intro w j h1 h2
    obtain ⟨w, rfl⟩ : ∃ w', w = w' + 1 := ⟨w - 1, by omega⟩
    simp only [f_X7_isBroken_L65, pu_gi hY.k, h16, Option.bind_some]
    rw [if_pos (nI_le (show c ≤ j by omega) (by omega))]
    rfl
  | succ s ih =>
    intro w j h1 h2
    obtain ⟨w, rfl⟩ : ∃ w', w = w' + 1 := ⟨w - 1, by omega⟩
    obtain ⟨r1, r2, r3, r4⟩ := hr i hi
    simp only [f_X7_isBroken_L65, pu_gi hY.k, h16, Option.bind_some, pu_gr hY.k hY.f17.1, pu_gr hY.k hY.f11.1]
    rw [if_neg (nI_ge (show j < c by omega) (by omega)), pu_li hY.f17.2 (show j < 120 by omega) (by decide), (hT j (by omega)).1, pu_li hY.f11.2 (show i < 4 by omega) (by decide), r1]
    simp only [Option.bind_some, ho_id, nI_1]
    have t := (hT j (by omega)).2
    unfold fi_n
    by_cases hc : T j < rf i
    · rw [if_neg (nI_ge hc (by omega)), if_pos hc]
      exact ih w (j + 1) (by omega) (by omega)
    · rw [if_pos (nI_le (by omega) (by omega)), if_neg hc]
theorem yi_last (h : yc K I R y n c X T ky low high rc rf rt) {i : Nat} (hi : i < rc) (a1 a2 a3 a4 w7 : Int32) (kk : Int32 → Int32 → Int32 → hp_S → Option (Int32 × hp_S)) : ∀ (j w : Nat), j ≤ c → j < w → f_X7_isBroken_L105 fu y a1 a2 a3 a4 kk w (nI i) w7 (nI j - 1) (K, I, R, N) = kk (nI i) w7 (nI (la_n T (rt i) j) - 1) (K, I, R, N) := by
  obtain ⟨hY, hA, h0, h2, -, -, h16, hT, hr0, hr1, hr⟩ := h
  have hc := hA.2.1
  intro j
  induction j with
  | zero =>
    intro w h1 h2
    obtain ⟨w, rfl⟩ : ∃ w', w = w' + 1 := ⟨w - 1, by omega⟩
    simp only [f_X7_isBroken_L105]
    rw [if_pos (show nI 0 - 1 < 0 by decide)]
    rfl
  | succ j ih =>
    intro w h1 h2
    obtain ⟨w, rfl⟩ : ∃ w', w = w' + 1 := ⟨w - 1, by omega⟩
    obtain ⟨r1, r2, r3, r4⟩ := hr i hi
    simp only [f_X7_isBroken_L105, nI_pred, pu_gr hY.k hY.f17.1, pu_gr hY.k hY.f12.1, Option.bind_some]
    rw [if_neg (Int32.not_lt.mpr (nI_pos' (show j < 2 ^ 31 by omega))), pu_li hY.f17.2 (show j < 120 by omega) (by decide), (hT j (by omega)).1, pu_li hY.f12.2 (show i < 4 by omega) (by decide), r2]
    simp only [Option.bind_some, ho_id]
    have t := (hT j (by omega)).2
    unfold la_n
    by_cases hc : rt i ≤ T j
    · rw [if_neg (nI_nlt hc (by omega)), if_pos hc]
      rw [show nI j + (-1) = nI j - 1 from (Int32.sub_eq_add_neg _ _).symm]
      exact ih w (by omega) (by omega)
    · rw [if_pos (nI_lt (by omega) (by omega)), if_neg hc, nI_pred]
theorem yi_loop (h : yc K I R y n c X T ky low high rc rf rt) (hfu : 130 ≤ fu) {k a b m : Nat} {B : Int32} (hk : k < 14) (hkm : nt_mk k = false) (ha : a < n) (hy : ya n k a b B) (hm : m < c) (p : Bool) : ∀ (s w i : Nat), i + s = rc → s < w → f_X7_isBroken_L48 fu y (nI k) (nI a) B (nI m) (f_X7_isBroken_B174 fu y (nI k) (nI a) B (nI m)) w (bI (p || jd_any (jd_rp n ky X T c rf rt m k a b) i)) (nI i) (K, I, R, N) = some (bI (p || jd_any (jd_rp n ky X T c rf rt m k a b) rc), (K, I, R, N)) := by
  have h' := h
  obtain ⟨hY, hA, h0, h2, -, -, h16, hT, hr0, hr1, hr⟩ := h
  have hc := hA.2.1
  intro s
  induction s with
  | zero =>
    intro w i h1 h2
    obtain ⟨w, rfl⟩ : ∃ w', w = w' + 1 := ⟨w - 1, by omega⟩
    have : i = rc := by omega
    subst this
    simp only [f_X7_isBroken_L48, f_X7_isBroken_B174, pu_gi hY.k, hr0, Option.bind_some]
    rw [if_pos (Int32.le_refl _), if_pos (bI_vn _)]
  | succ s ih =>
    intro w i h1 h2
    obtain ⟨w, rfl⟩ : ∃ w', w = w' + 1 := ⟨w - 1, by omega⟩
    simp only [f_X7_isBroken_L48, pu_gi hY.k, hr0, Option.bind_some, bI_ite]
    rw [if_neg (nI_ge (show i < rc by omega) (by omega))]
    have hi : i < rc := by omega
    by_cases hp : (p || jd_any (jd_rp n ky X T c rf rt m k a b) i) = true
    · rw [if_pos hp, f_X7_isBroken_B174, if_pos (bI_vn _), hp]
      have hmono : ∀ r, i ≤ r → (p || jd_any (jd_rp n ky X T c rf rt m k a b) r) = true := by
        intro r
        induction r with
        | zero =>
          intro q
          have : i = 0 := by omega
          rw [this] at hp
          exact hp
        | succ r ihr =>
          intro q
          rcases Nat.lt_or_ge r i with q2 | q2
          · have : i = r + 1 := by omega
            rw [← this]
            exact hp
          · have := ihr q2
            simp only [jd_any]
            rw [← Bool.or_assoc, this]
            rfl
      rw [hmono rc (by omega)]
    · rw [if_neg hp]
      have hpf : (p || jd_any (jd_rp n ky X T c rf rt m k a b) i) = false := by
        cases hq : (p || jd_any (jd_rp n ky X T c rf rt m k a b) i)
        · rfl
        · exact absurd hq hp
      have hf := yi_first (fu := fu) (N := N) h' hi (nI k) (nI a) B (nI m) (f_X7_isBroken_B97 fu y (nI k) (nI a) B (nI m) (f_X7_isBroken_L48 fu y (nI k) (nI a) B (nI m) (f_X7_isBroken_B174 fu y (nI k) (nI a) B (nI m)) w) (f_X7_isBroken_B174 fu y (nI k) (nI a) B (nI m))) c fu 0 (by omega) (by omega)
      rw [nI_0] at hf
      rw [hf]
      have hFle := fi_le T (rf i) c 0
      have hLle := la_le T (rt i) c
      simp only [f_X7_isBroken_B97, pu_gi hY.k, h16, Option.bind_some, ho_id]
      rw [yi_last (fu := fu) (N := N) h' hi (nI k) (nI a) B (nI m) _ _ c fu (Nat.le_refl _) (by omega)]
      have nx : ∀ q : Bool, q = jd_rp n ky X T c rf rt m k a b i → f_X7_isBroken_B166 fu y (nI k) (nI a) B (nI m) (f_X7_isBroken_L48 fu y (nI k) (nI a) B (nI m) (f_X7_isBroken_B174 fu y (nI k) (nI a) B (nI m)) w) (f_X7_isBroken_B174 fu y (nI k) (nI a) B (nI m)) (nI i) (bI q) (K, I, R, N) = some (bI (p || jd_any (jd_rp n ky X T c rf rt m k a b) rc), (K, I, R, N)) := by
        intro q hq
        simp only [f_X7_isBroken_B166, ho_id, Option.bind_some, nI_1]
        have := ih w (i + 1) (by omega) (by omega)
        simp only [jd_any] at this
        rw [← Bool.or_assoc, hpf, Bool.false_or, ← hq] at this
        exact this
      simp only [f_X7_isBroken_B133, f_X7_isBroken_B165]
      generalize hF : fi_n T (rf i) c 0 = F at hFle ⊢
      generalize hL : la_n T (rt i) c = L at hLle ⊢
      by_cases c1 : F = m
      · rw [if_pos (by rw [c1])]
        have hcmp : (nI L - 1 < nI F) ↔ L ≤ F := by
          rw [iI_nat, show (1 : Int32) = iI 1 from rfl, iI_sub, iI_nat, iI_lt (by omega) (by omega) (by omega) (by omega)]
          omega
        by_cases c2 : L ≤ F
        · rw [if_pos (hcmp.mpr c2)]
          refine nx false ?_
          unfold jd_rp
          rw [hF, hL, decide_eq_false (by omega)]
          rfl
        · rw [if_neg (fun q => c2 (hcmp.mp q))]
          obtain ⟨l, rfl⟩ : ∃ l, L = l + 1 := ⟨L - 1, by omega⟩
          rw [pu_is hY.k, Option.bind_some, nI_pred, yi_pr h' hk hkm ha hy (show l < c by omega) hm, Option.bind_some]
          simp only [bI_ite]
          have hq : jd_rp n ky X T c rf rt m k a b i = nt_pr n ky k a b (X l) (X m) := by
            unfold jd_rp
            rw [hF, hL, decide_eq_true (by omega), Bool.true_and, Nat.add_sub_cancel]
          by_cases c3 : nt_pr n ky k a b (X l) (X m) = true
          · rw [if_pos c3]
            exact nx true (by rw [hq, c3])
          · rw [if_neg c3]
            refine nx false ?_
            rw [hq]
            cases hz : nt_pr n ky k a b (X l) (X m)
            · rfl
            · exact absurd hz c3
      · rw [if_neg (fun q => c1 ((nI_eq (by omega) (by omega)).mp q))]
        refine nx false ?_
        unfold jd_rp
        rw [hF, hL, decide_eq_false (fun q => c1 q.1)]
        rfl
theorem nt_pr_no {n : Nat} {ky : Int} {k a b : Nat} {Y : Nat → Option nt_T} : nt_pr n ky k a b (fun _ => none) Y = false := by
  unfold nt_pr
  split <;> simp [nt_way, nt_go, nt_lp, nt_as, nt_sv, nt_cr]
theorem yi_all (h : yc K I R y n c X T ky low high rc rf rt) (hfu : 130 ≤ fu) {k a b m : Nat} {B : Int32} (hk : k < 14) (ha : a < n) (hy : ya n k a b B) (hm : m < c) : f_X7_isBroken fu y (nI k) (nI a) B (nI m) (K, I, R, N) = some (bI (jd_br n ky low high X T c rc rf rt m k a b), (K, I, R, N)) := by
  have h' := h
  obtain ⟨hY, hA, h0, h2, -, -, h16, hT, hr0, hr1, hr⟩ := h
  have hc := hA.2.1
  have hlp := fun p (hkm : nt_mk k = false) => yi_loop (fu := fu) (N := N) (b := b) h' hfu hk hkm ha hy hm p rc fu 0 (by omega) (by omega)
  simp only [f_X7_isBroken, f_X7_isBroken_B42, f_X7_isBroken_B43, yb_of _ _ hk, Option.bind_some, bI_ite]
  unfold jd_br
  cases hkm : nt_mk k
  · rw [if_neg (by decide), nt_mo_mk hkm hk, Bool.false_or]
    have hlp := fun p => hlp p hkm
    simp only [jd_any, Bool.or_false, nI_0] at hlp
    by_cases hm0 : m = 0
    · rw [if_pos (by rw [hm0]; decide)]
      have : nt_pr n ky k a b (nt_pv X m) (X m) = false := by
        rw [hm0, show nt_pv X 0 = fun _ => none from rfl]
        exact nt_pr_no
      rw [this]
      exact hlp false
    · obtain ⟨m', rfl⟩ : ∃ m', m = m' + 1 := ⟨m - 1, by omega⟩
      rw [if_neg (nI_nle (by omega) (by omega)), pu_is hY.k, Option.bind_some, nI_pred, yi_pr h' hk hkm ha hy (show m' < c by omega) hm, Option.bind_some]
      have hpv : nt_pv X (m' + 1) = X m' := by simp [nt_pv]
      rw [hpv]
      simp only [bI_ite]
      cases hq : nt_pr n ky k a b (X m') (X (m' + 1))
      · exact hlp false
      · exact hlp true
  · rw [if_pos rfl, pu_is hY.k, Option.bind_some, yi_mo h' hk hkm ha hy hm, Option.bind_some]
    simp only [bI_vn, if_true, nt_pr_mk hkm]
    rw [jd_any_f (fun i => by unfold jd_rp; rw [nt_pr_mk hkm, Bool.and_false]), Bool.or_false, Bool.or_false]
end YI
