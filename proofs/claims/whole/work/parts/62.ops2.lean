/-! note, rest, take -/
def ap_d (d : rl_D) (v tt : Nat) (s h : Int32) : rl_D := (fun u => if u = v then d.1 v + 1 else d.1 u, fun u i => if u = v ∧ i = d.1 v then tt else d.2.1 u i, fun u i => if u = v ∧ i = d.1 v then s else d.2.2.1 u i, fun u i => if u = v ∧ i = d.1 v then h else d.2.2.2.1 u i, d.2.2.2.2.1, d.2.2.2.2.2)
def ap_o (d : rl_D) (v tt : Nat) (s h : Int32) : Int32 × rl_D := if 0 < d.1 v ∧ tt ≤ d.2.1 v (d.1 v - 1) then (-4, d) else if d.1 v = 24 then (-3, d) else (nI (d.1 v + 1), ap_d d v tt s h)
theorem ap_ok {n : Nat} {d : rl_D} {v tt : Nat} {s h : Int32} (hd : rl_ok n d) (hv : v < n) (ht : tt < 1000) (hn : sp_note s h) : rl_ok n (ap_o d v tt s h).2 := by
  unfold ap_o
  split
  · exact hd
  · rename_i h1
    split
    · exact hd
    · rename_i h2
      obtain ⟨a1, a2⟩ := hd
      refine ⟨fun u hu => ?_, fun u hu i hi => ?_⟩
      · obtain ⟨b1, b2, b3⟩ := a1 u hu
        by_cases hq : u = v
        · subst hq
          simp only [ap_d, if_true, true_and]
          refine ⟨by omega, fun i hi => ?_, fun i j hij hj => ?_⟩
          · split
            · exact ht
            · exact b2 i (by omega)
          · rw [if_neg (show ¬ i = d.1 u by omega)]
            split
            · rcases Nat.lt_or_ge i (d.1 u - 1) with q | q
              · have := b3 i (d.1 u - 1) q (by omega)
                omega
              · have : i = d.1 u - 1 := by omega
                subst this
                omega
            · exact b3 i j hij (by omega)
        · simp only [ap_d, if_neg hq, hq, false_and, if_false]
          exact ⟨b1, b2, b3⟩
      · simp only [ap_d] at hi ⊢
        by_cases hq : u = v ∧ i = d.1 v
        · rw [if_pos hq, if_pos hq]
          exact hn
        · rw [if_neg hq, if_neg hq]
          refine a2 u hu i ?_
          by_cases hq2 : u = v
          · rw [if_pos hq2] at hi
            subst hq2
            have : i ≠ d.1 u := fun e => hq ⟨rfl, e⟩
            omega
          · rw [if_neg hq2] at hi
            exact hi
section OP2
variable {K : Nat → Nat × Nat} {I : Nat → Nat → Int32} {R : Nat → Nat → Option Nat} {N fu x y n p s : Nat} {d : rl_D} {rb ky : Int32} {g rc : Nat} {rf rt : Nat → Nat} {xc : Nat} {xk xt : Nat → Nat} {tm : Nat → Nat}
theorem pa_append (hp : sp_P K R p) (hs : I p 3 = nI s) (h24 : s ≤ 24) (htm : ∀ i, i < s → I (p + 1) i = nI (tm i) ∧ tm i < 1000) {tt : Nat} (ht : tt < 1000) (a b : Int32) :
    f_X4_append fu p (nI tt) a b (K, I, R, N) = some (if 0 < s ∧ tt ≤ tm (s - 1) then (-4, (K, I, R, N)) else if s = 24 then (-3, (K, I, R, N)) else (nI (s + 1), (K, hp_set (hp_set (hp_set (hp_set I (p + 1) s (nI tt)) (p + 2) s a) (p + 3) s b) p 3 (nI (s + 1)), R, N))) := by
  simp only [f_X4_append, pu_is hp.1, gt_last hp hs h24, Option.bind_some, pu_gi hp.1, hs, pu_gr hp.1 hp.2.1, pu_gr hp.1 hp.2.2.1, pu_gr hp.1 hp.2.2.2.1]
  have hlate : ((if s = 0 then (-1 : Int32) else I (p + 1) (s - 1)) < nI tt) ↔ ¬ (0 < s ∧ tt ≤ tm (s - 1)) := by
    by_cases h0 : s = 0
    · rw [if_pos h0]
      exact ⟨fun _ q => by omega, fun _ => by rw [iI_nat, show (-1 : Int32) = iI (-1) from rfl]; exact (iI_lt (by omega) (by omega) (by omega) (by omega)).mpr (by omega)⟩
    · obtain ⟨e1, e2⟩ := htm (s - 1) (by omega)
      rw [if_neg h0, e1, nI_ltI (by omega) (by omega)]
      omega
  by_cases h1 : 0 < s ∧ tt ≤ tm (s - 1)
  · rw [if_neg (fun q => hlate.mp q h1), if_pos h1]
  · rw [if_pos (hlate.mpr h1), if_neg h1]
    by_cases h2 : s = 24
    · rw [if_neg (show ¬ nI s < 24 from by rw [h2]; exact nI_nlt (a := 24) (b := 24) (Nat.le_refl _) (by decide)), if_pos h2]
    · rw [if_pos (show nI s < 24 from nI_lt (b := 24) (by omega) (by decide)), if_neg h2, pu_si hp.2.2.2.2.1 (by omega) (by decide)]
      have r1 : hp_set I (p + 1) s (nI tt) p 3 = nI s := by rw [pu_set_row _ _ _ _ (by omega)]; exact hs
      simp only [Option.bind_some, pu_gi hp.1, r1, pu_gr hp.1 hp.2.2.1]
      rw [pu_si hp.2.2.2.2.2.1 (by omega) (by decide)]
      have r2 : hp_set (hp_set I (p + 1) s (nI tt)) (p + 2) s a p 3 = nI s := by rw [pu_set_row _ _ _ _ (by omega)]; exact r1
      simp only [Option.bind_some, pu_gi hp.1, r2, pu_gr hp.1 hp.2.2.2.1]
      rw [pu_si hp.2.2.2.2.2.2 (by omega) (by decide)]
      have r3 : hp_set (hp_set (hp_set I (p + 1) s (nI tt)) (p + 2) s a) (p + 3) s b p 3 = nI s := by rw [pu_set_row _ _ _ _ (by omega)]; exact r2
      simp only [Option.bind_some, pu_gi hp.1, r3, pu_pi hp.1, nI_1, pu_set_at]
theorem rl_E (h : rl_X1 I x n d) (ho : sp_ok n d.1 d.2.1) : sp_E I (fun v => x + 2 + 4 * v) n d.1 d.2.1 := fun v hv => ⟨(h v hv).1, (ho v hv).1, fun i hi => ⟨((h v hv).2.2.2 i hi).1, (ho v hv).2.1 i hi⟩, (ho v hv).2.2⟩
/-- gather, with the relation's words -/
theorem xa_gather (hX : sp_X K R x n) (h1 : rl_X1 I x n d) (ho : sp_ok n d.1 d.2.1) (hg : g = 0 ∨ 10 ≤ g ∧ g ≤ 500) (hfu : 200 ≤ fu) : pu_ok (f_X5_gather fu (sp_t x n) (x + 1) (nI g) (K, I, R, N)) (fun z => ∃ I', z = (K, I', R, N) ∧ (∀ b, b < sp_t x n ∨ sp_t x n + 3 ≤ b → I' b = I b) ∧ rl_4 I' (sp_t x n) (sp_isM n d.1 d.2.1 g)) := by
  have ht : sp_t x n = x + 2 + 4 * n := rfl
  refine pu_mono (gt_gather hX.a.2 hX.t.2 (fun v hv => by show x + 2 + 4 * v + 4 ≤ sp_t x n; omega) (rl_E h1 ho) hg hfu) ?_
  rintro _ ⟨I', c, T, rfl, q1, q2, q3, q4, q5⟩
  exact ⟨I', rfl, fun b hb => q1 b (by omega) (by omega) (by omega), c, T, q2, q3, q4, q5⟩
theorem xa_append (hX : sp_X K R x n) (h1 : rl_X1 I x n d) (hd : rl_ok n d) (hg : g = 0 ∨ 10 ≤ g ∧ g ≤ 500) (h8 : I x 8 = nI g) {v tt : Nat} (hv : v < n) (htt : tt < 1000) {a b : Int32} (hn : sp_note a b) (hfu : 200 ≤ fu) :
    pu_ok (f_X6_append fu x (nI v) (nI tt) a b (K, I, R, N)) (fun r => r.1 = (ap_o d v tt a b).1 ∧ ∃ I', r.2 = (K, I', R, N) ∧ (∀ c, c < x + 2 ∨ sp_t x n + 3 ≤ c → I' c = I c) ∧ rl_X1 I' x n (ap_o d v tt a b).2 ∧ rl_4 I' (sp_t x n) (sp_isM n (ap_o d v tt a b).2.1 (ap_o d v tt a b).2.2.1 g)) := by
  have ht : sp_t x n = x + 2 + 4 * n := rfl
  have h5 := hX.n5
  obtain ⟨hr, hp⟩ := hX.p hv
  obtain ⟨e1, e2, e3, e4⟩ := h1 v hv
  have o1 := hd.1 v hv
  have q2 : ho_lr 4 (x + 1) (nI v) (K, I, R, N) = some (x + 2 + 4 * v) := pu_lr hX.a.2.1 hv (by omega) hr
  simp only [f_X6_append, pu_gr hX.k hX.a.1, q2, pu_is hp.1, Option.bind_some, pa_append hp e1 o1.1 (fun i hi => ⟨(e4 i hi).1, o1.2.1 i hi⟩) htt]
  have key : ∀ (I1 : Nat → Nat → Int32) (r : Int32) (d' : rl_D), rl_X1 I1 x n d' → sp_ok n d'.1 d'.2.1 → (∀ c, c < x + 2 ∨ sp_t x n ≤ c → I1 c = I c) → pu_ok (((ho_gr 6 x 1 (K, I1, R, N)).bind fun r4 => (ho_gr 6 x 0 (K, I1, R, N)).bind fun r5 => (ho_gi 6 x 8 (K, I1, R, N)).bind fun v6 => (ho_is 5 r4 (K, I1, R, N)).bind fun _ => (f_X5_gather fu r4 r5 v6 (K, I1, R, N)).bind fun z => some (r, z))) (fun q => q.1 = r ∧ ∃ I', q.2 = (K, I', R, N) ∧ (∀ c, c < x + 2 ∨ sp_t x n + 3 ≤ c → I' c = I c) ∧ rl_X1 I' x n d' ∧ rl_4 I' (sp_t x n) (sp_isM n d'.1 d'.2.1 g)) := by
    intro I1 r d' k1 k2 k3
    have k8 : I1 x 8 = nI g := by rw [k3 x (by omega)]; exact h8
    simp only [pu_gr hX.k hX.a.1, pu_gr hX.k hX.t.1, pu_gi hX.k, pu_is hX.t.2.1, Option.bind_some, k8]
    refine pu_bind (pu_mono (xa_gather hX k1 k2 hg hfu) ?_)
    rintro _ ⟨I', rfl, w1, w2⟩
    exact pu_some ⟨rfl, I', rfl, fun c hc => by rw [w1 c (by omega)]; exact k3 c (by omega), k1.keep (fun c c1 c2 => w1 c (by omega)), w2⟩
  unfold ap_o
  by_cases c1 : 0 < d.1 v ∧ tt ≤ d.2.1 v (d.1 v - 1)
  · simp only [if_pos c1]
    exact key I (-4) d h1 hd.1 (fun _ _ => rfl)
  · simp only [if_neg c1]
    by_cases c2 : d.1 v = 24
    · simp only [if_pos c2]
      exact key I (-3) d h1 hd.1 (fun _ _ => rfl)
    · simp only [if_neg c2]
      have hok := ap_ok (s := a) (h := b) hd hv htt hn
      unfold ap_o at hok
      rw [if_neg c1, if_neg c2] at hok
      refine key _ (nI (d.1 v + 1)) (ap_d d v tt a b) ?_ hok.1 (fun c hc => by rw [pu_set_row _ _ _ _ (by omega), pu_set_row _ _ _ _ (by omega), pu_set_row _ _ _ _ (by omega), pu_set_row _ _ _ _ (by omega)])
      intro u hu
      obtain ⟨w1, w2, w3, w4⟩ := h1 u hu
      by_cases hq : u = v
      · subst hq
        simp only [ap_d, if_true, true_and]
        refine ⟨by rw [pu_set_at], ?_, ?_, fun i hi => ⟨?_, ?_, ?_⟩⟩
        · rw [pu_set_off _ _ _ _ (by decide), pu_set_row _ _ _ _ (by omega), pu_set_row _ _ _ _ (by omega), pu_set_row _ _ _ _ (by omega)]
          exact w2
        · rw [pu_set_off _ _ _ _ (by decide), pu_set_row _ _ _ _ (by omega), pu_set_row _ _ _ _ (by omega), pu_set_row _ _ _ _ (by omega)]
          exact w3
        · rw [pu_set_row _ _ _ _ (by omega), pu_set_row _ _ _ _ (by omega), pu_set_row _ _ _ _ (by omega), pu_set]
          simp only [if_true]
          split
          · rfl
          · exact (w4 i (by omega)).1
        · rw [pu_set_row _ _ _ _ (by omega), pu_set_row _ _ _ _ (by omega), pu_set]
          simp only [if_true]
          split
          · rfl
          · rw [pu_set_row _ _ _ _ (by omega)]
            exact (w4 i (by omega)).2.1
        · rw [pu_set_row _ _ _ _ (by omega), pu_set]
          simp only [if_true]
          split
          · rfl
          · rw [pu_set_row _ _ _ _ (by omega), pu_set_row _ _ _ _ (by omega)]
            exact (w4 i (by omega)).2.2
      · have hrow : ∀ c, c ≤ 3 → hp_set (hp_set (hp_set (hp_set I (x + 2 + 4 * v + 1) (d.1 v) (nI tt)) (x + 2 + 4 * v + 2) (d.1 v) a) (x + 2 + 4 * v + 3) (d.1 v) b) (x + 2 + 4 * v) 3 (nI (d.1 v + 1)) (x + 2 + 4 * u + c) = I (x + 2 + 4 * u + c) := fun c hc => by rw [pu_set_row _ _ _ _ (by omega), pu_set_row _ _ _ _ (by omega), pu_set_row _ _ _ _ (by omega), pu_set_row _ _ _ _ (by omega)]
        simp only [ap_d, if_neg hq, hq, false_and, if_false]
        rw [hrow 1 (by omega), hrow 2 (by omega), hrow 3 (by omega)]
        have h0 := hrow 0 (by omega)
        simp only [Nat.add_zero] at h0
        rw [h0]
        exact ⟨w1, w2, w3, w4⟩
end OP2
