def f_X7_learn_B318 (fu : Nat) (a0 : Nat) (z : hp_S) : Option hp_S :=
  some z
def f_X7_learn_B312 (fu : Nat) (a0 : Nat) (ag : Int32 → hp_S → Option hp_S) (kk : hp_S → Option hp_S) (w2 : Int32) (z : hp_S) : Option hp_S :=
  (ho_id (w2 + 1)).bind fun v2 =>
  ag v2 z
def f_X7_learn_B305 (fu : Nat) (a0 : Nat) (ag : Int32 → Int32 → Int32 → hp_S → Option hp_S) (kk : Int32 → hp_S → Option hp_S) (w2 : Int32) (w3 : Int32) (w4 : Int32) (s0 : Int32) (s1 : Int32) (s2 : Nat) (z : hp_S) : Option hp_S :=
  (ho_si s2 s1 s0 z).bind fun z =>
  (ho_id (w4 + 1)).bind fun v6 =>
  ag w2 w3 v6 z
def f_X7_learn_B299 (fu : Nat) (a0 : Nat) (ag : Int32 → Int32 → Int32 → hp_S → Option hp_S) (kk : Int32 → hp_S → Option hp_S) (w2 : Int32) (w3 : Int32) (w4 : Int32) (s0 : Int32) (s1 : Nat) (z : hp_S) : Option hp_S :=
  f_X7_learn_B305 fu a0 ag kk w2 w3 w4 (-1) s0 s1 z
def f_X7_learn_B263 (fu : Nat) (a0 : Nat) (ag : Int32 → Int32 → Int32 → hp_S → Option hp_S) (kk : Int32 → hp_S → Option hp_S) (w2 : Int32) (w3 : Int32) (w4 : Int32) (z : hp_S) : Option hp_S :=
  (ho_id (((24 * w2) + w3) - 1)).bind fun v4 =>
  (ho_gr 7 a0 18 z).bind fun r5 =>
  if w3 = 0 then (
    f_X7_learn_B299 fu a0 ag kk w2 w3 w4 ((120 * w2) + w4) r5 z
  ) else (
    (ho_gr 7 a0 3 z).bind fun r7 =>
    (ho_li 1 r7 v4 z).bind fun v8 =>
    if v8 = (-1) then (
      f_X7_learn_B299 fu a0 ag kk w2 w3 w4 ((120 * w2) + w4) r5 z
    ) else (
      f_X7_learn_B305 fu a0 ag kk w2 w3 w4 v4 ((120 * w2) + w4) r5 z
    )
  )
def f_X7_learn_L226 (fu : Nat) (a0 : Nat) (kk : Int32 → Int32 → Int32 → hp_S → Option hp_S) : Nat → Int32 → Int32 → Int32 → hp_S → Option hp_S
  | 0, _, _, _, _ => none
  | n + 1, w2, w3, w4, z =>
    (ho_gr 7 a0 1 z).bind fun r9 =>
    (ho_li 1 r9 w2 z).bind fun v10 =>
    if v10 ≤ w3 then (
      kk w2 w3 w4 z
    ) else (
      (ho_gr 7 a0 2 z).bind fun r11 =>
      (ho_li 1 r11 ((24 * w2) + w3) z).bind fun v12 =>
      (ho_gr 7 a0 17 z).bind fun r13 =>
      (ho_li 1 r13 w4 z).bind fun v14 =>
      if v14 < v12 then (
        kk w2 w3 w4 z
      ) else (
        (ho_id (w3 + 1)).bind fun v15 =>
        (f_X7_learn_L226 fu a0 kk n) w2 v15 w4 z
      )
    )
def f_X7_learn_L217 (fu : Nat) (a0 : Nat) (kk : Int32 → hp_S → Option hp_S) : Nat → Int32 → Int32 → Int32 → hp_S → Option hp_S
  | 0, _, _, _, _ => none
  | n + 1, w2, w3, w4, z =>
    (ho_gi 7 a0 16 z).bind fun v3 =>
    if v3 ≤ w4 then (
      kk w2 z
    ) else (
      f_X7_learn_L226 fu a0 (f_X7_learn_B263 fu a0 (f_X7_learn_L217 fu a0 kk n) kk) fu w2 w3 w4 z
    )
def f_X7_learn_L204 (fu : Nat) (a0 : Nat) (kk : hp_S → Option hp_S) : Nat → Int32 → hp_S → Option hp_S
  | 0, _, _ => none
  | n + 1, w2, z =>
    (ho_gi 7 a0 0 z).bind fun v1 =>
    if v1 ≤ w2 then (
      kk  z
    ) else (
      f_X7_learn_L217 fu a0 (f_X7_learn_B312 fu a0 (f_X7_learn_L204 fu a0 kk n) kk) fu w2 0 0 z
    )
def f_X7_learn_B202 (fu : Nat) (a0 : Nat) (z : hp_S) : Option hp_S :=
  f_X7_learn_L204 fu a0 (f_X7_learn_B318 fu a0) fu 0 z
def f_X7_learn_B196 (fu : Nat) (a0 : Nat) (ag : Int32 → Int32 → hp_S → Option hp_S) (kk : hp_S → Option hp_S) (w1 : Int32) (w2 : Int32) (z : hp_S) : Option hp_S :=
  (ho_id (w2 + 1)).bind fun v17 =>
  ag w1 v17 z
def f_X7_learn_B172 (fu : Nat) (a0 : Nat) (ag : Int32 → Int32 → hp_S → Option hp_S) (kk : hp_S → Option hp_S) (w1 : Int32) (w2 : Int32) (w3 : Int32) (z : hp_S) : Option hp_S :=
  if w3 = 0 then (
    f_X7_learn_B196 fu a0 ag kk w1 w2 z
  ) else (
    (ho_gr 7 a0 17 z).bind fun r18 =>
    (ho_gi 7 a0 16 z).bind fun v19 =>
    (ho_si r18 v19 w2 z).bind fun z =>
    (ho_gi 7 a0 16 z).bind fun v20 =>
    (ho_pi 7 a0 16 (v20 + 1) z).bind fun z =>
    f_X7_learn_B196 fu a0 ag kk w1 w2 z
  )
def f_X7_learn_B166 (fu : Nat) (a0 : Nat) (ag : Int32 → Int32 → Int32 → Int32 → hp_S → Option hp_S) (kk : Int32 → Int32 → Int32 → hp_S → Option hp_S) (w1 : Int32) (w2 : Int32) (w3 : Int32) (w4 : Int32) (z : hp_S) : Option hp_S :=
  (ho_id (w4 + 1)).bind fun v23 =>
  ag w1 w2 w3 v23 z
def f_X7_learn_B159 (fu : Nat) (a0 : Nat) (ag : Int32 → Int32 → Int32 → Int32 → Int32 → hp_S → Option hp_S) (kk : Int32 → Int32 → Int32 → Int32 → hp_S → Option hp_S) (w1 : Int32) (w2 : Int32) (w4 : Int32) (w5 : Int32) (s0 : Int32) (z : hp_S) : Option hp_S :=
  (ho_id (w5 + 1)).bind fun v26 =>
  ag w1 w2 s0 w4 v26 z
def f_X7_learn_B154 (fu : Nat) (a0 : Nat) (ag : Int32 → Int32 → Int32 → Int32 → Int32 → hp_S → Option hp_S) (kk : Int32 → Int32 → Int32 → Int32 → hp_S → Option hp_S) (w1 : Int32) (w2 : Int32) (w4 : Int32) (w5 : Int32) (z : hp_S) : Option hp_S :=
  f_X7_learn_B159 fu a0 ag kk w1 w2 w4 w5 1 z
def f_X7_learn_L121 (fu : Nat) (a0 : Nat) (kk : Int32 → Int32 → Int32 → Int32 → hp_S → Option hp_S) : Nat → Int32 → Int32 → Int32 → Int32 → Int32 → hp_S → Option hp_S
  | 0, _, _, _, _, _, _ => none
  | n + 1, w1, w2, w3, w4, w5, z =>
    (ho_gr 7 a0 1 z).bind fun r24 =>
    (ho_li 1 r24 w4 z).bind fun v25 =>
    if v25 ≤ w5 then (
      kk w1 w2 w3 w4 z
    ) else (
      if w3 = 0 then (
        (ho_gr 7 a0 2 z).bind fun r27 =>
        (ho_li 1 r27 ((24 * w4) + w5) z).bind fun v28 =>
        if v28 = w2 then (
          f_X7_learn_B154 fu a0 (f_X7_learn_L121 fu a0 kk n) kk w1 w2 w4 w5 z
        ) else (
          f_X7_learn_B159 fu a0 (f_X7_learn_L121 fu a0 kk n) kk w1 w2 w4 w5 0 z
        )
      ) else (
        f_X7_learn_B154 fu a0 (f_X7_learn_L121 fu a0 kk n) kk w1 w2 w4 w5 z
      )
    )
def f_X7_learn_L98 (fu : Nat) (a0 : Nat) (kk : Int32 → Int32 → Int32 → hp_S → Option hp_S) : Nat → Int32 → Int32 → Int32 → Int32 → hp_S → Option hp_S
  | 0, _, _, _, _, _ => none
  | n + 1, w1, w2, w3, w4, z =>
    (ho_gi 7 a0 0 z).bind fun v21 =>
    if v21 ≤ w4 then (
      kk w1 w2 w3 z
    ) else (
      (ho_gi 7 a0 9 z).bind fun v22 =>
      if v22 = 0 then (
        if w3 = 0 then (
          f_X7_learn_L121 fu a0 (f_X7_learn_B166 fu a0 (f_X7_learn_L98 fu a0 kk n) kk) fu w1 w2 w3 w4 0 z
        ) else (
          kk w1 w2 w3 z
        )
      ) else (
        kk w1 w2 w3 z
      )
    )
def f_X7_learn_B94 (fu : Nat) (a0 : Nat) (ag : Int32 → Int32 → hp_S → Option hp_S) (kk : hp_S → Option hp_S) (w1 : Int32) (w2 : Int32) (s0 : Int32) (z : hp_S) : Option hp_S :=
  f_X7_learn_L98 fu a0 (f_X7_learn_B172 fu a0 ag kk) fu w1 w2 s0 0 z
def f_X7_learn_B93 (fu : Nat) (a0 : Nat) (ag : Int32 → Int32 → hp_S → Option hp_S) (kk : hp_S → Option hp_S) (w1 : Int32) (w2 : Int32) (z : hp_S) : Option hp_S :=
  f_X7_learn_B94 fu a0 ag kk w1 w2 0 z
def f_X7_learn_L68 (fu : Nat) (a0 : Nat) (kk : hp_S → Option hp_S) : Nat → Int32 → Int32 → hp_S → Option hp_S
  | 0, _, _, _ => none
  | n + 1, w1, w2, z =>
    if w1 < w2 then (
      kk  z
    ) else (
      (ho_gi 7 a0 9 z).bind fun v16 =>
      if v16 ≤ 0 then (
        f_X7_learn_B93 fu a0 (f_X7_learn_L68 fu a0 kk n) kk w1 w2 z
      ) else (
        (ho_gi 7 a0 9 z).bind fun v29 =>
        (ho_rm w2 v29).bind fun v30 =>
        if v30 = 0 then (
          f_X7_learn_B94 fu a0 (f_X7_learn_L68 fu a0 kk n) kk w1 w2 1 z
        ) else (
          f_X7_learn_B93 fu a0 (f_X7_learn_L68 fu a0 kk n) kk w1 w2 z
        )
      )
    )
def f_X7_learn_B66 (fu : Nat) (a0 : Nat) (w1 : Int32) (z : hp_S) : Option hp_S :=
  f_X7_learn_L68 fu a0 (f_X7_learn_B202 fu a0) fu w1 0 z
def f_X7_learn_B59 (fu : Nat) (a0 : Nat) (ag : Int32 → Int32 → hp_S → Option hp_S) (kk : Int32 → hp_S → Option hp_S) (w2 : Int32) (s0 : Int32) (z : hp_S) : Option hp_S :=
  (ho_id (w2 + 1)).bind fun v38 =>
  ag s0 v38 z
def f_X7_learn_B48 (fu : Nat) (a0 : Nat) (ag : Int32 → Int32 → hp_S → Option hp_S) (kk : Int32 → hp_S → Option hp_S) (w1 : Int32) (w2 : Int32) (s0 : Int32) (z : hp_S) : Option hp_S :=
  if s0 ≤ w1 then (
    f_X7_learn_B59 fu a0 ag kk w2 w1 z
  ) else (
    f_X7_learn_B59 fu a0 ag kk w2 s0 z
  )
def f_X7_learn_L9 (fu : Nat) (a0 : Nat) (kk : Int32 → hp_S → Option hp_S) : Nat → Int32 → Int32 → hp_S → Option hp_S
  | 0, _, _, _ => none
  | n + 1, w1, w2, z =>
    (ho_gi 7 a0 0 z).bind fun v31 =>
    if v31 ≤ w2 then (
      kk w1 z
    ) else (
      (ho_gr 7 a0 1 z).bind fun r32 =>
      (ho_li 1 r32 w2 z).bind fun v33 =>
      if v33 = 0 then (
        f_X7_learn_B48 fu a0 (f_X7_learn_L9 fu a0 kk n) kk w1 w2 (-1) z
      ) else (
        (ho_gr 7 a0 2 z).bind fun r34 =>
        (ho_gr 7 a0 1 z).bind fun r35 =>
        (ho_li 1 r35 w2 z).bind fun v36 =>
        (ho_li 1 r34 (((24 * w2) + v36) - 1) z).bind fun v37 =>
        f_X7_learn_B48 fu a0 (f_X7_learn_L9 fu a0 kk n) kk w1 w2 v37 z
      )
    )
def f_X7_learn (fu : Nat) (a0 : Nat) (z : hp_S) : Option hp_S :=
  (ho_pi 7 a0 16 0 z).bind fun z =>
  f_X7_learn_L9 fu a0 (f_X7_learn_B66 fu a0) fu (-1) 0 z
set_option maxHeartbeats 4000000 in
set_option maxRecDepth 100000 in
theorem c_X7_learn (l : Launch) (G : hp_G) (fu : Nat) (a0 : Nat) (z zq : hp_S) (h : f_X7_learn fu a0 z = some zq) : hp_M l G yX7_learn cX7_learn 6 none 0 0 0 0 [.ref a0] z (hp_Qv G zq) := by
  refine hp_M.of (by decide) (Nat.le_of_ble_eq_true rfl) ?_
  intro p e s m below meth c X hr hlocks hnm hP hS ls hl
  have X : hp_C G cX7_learn RX7 6 p s m c := X
  have hl : lv_has ls 6 [(0, .ref a0)] := hl
  have hx := X.1
  have hb := X.2.1
  have B318 : ∀ (z : hp_S) (H : Heap) (locs : List Loc) (ls : Array Slot), f_X7_learn_B318 fu a0 z = some zq → hp_P G z H → va_S (hp_A G) s.heap H locs → lv_has ls 6 [(0, .ref a0)] → W p l e (hp_rm 0 0 0 0) s m [.ref a0].toArray below meth c H locs 0 0 (MQ below (hp_Qv G zq) [.ref a0].toArray s 0 0 (hp_A G)) (F0 m 318 ls []) := by
    intro z H locs ls h hP hS hl
    unfold f_X7_learn_B318 at h
    exact hw_vret X hP hS hr hlocks h dX7_learn_318
  have L204 : ∀ (n204 : Nat) (w2 : Int32) (z : hp_S) (H : Heap) (locs : List Loc) (ls : Array Slot), f_X7_learn_L204 fu a0 (f_X7_learn_B318 fu a0) n204 w2 z = some zq → hp_P G z H → va_S (hp_A G) s.heap H locs → lv_has ls 6 [(0, .ref a0), (2, .int w2)] → W p l e (hp_rm 0 0 0 0) s m [.ref a0].toArray below meth c H locs 0 0 (MQ below (hp_Qv G zq) [.ref a0].toArray s 0 0 (hp_A G)) (F0 m 204 ls []) := by
    intro n204
    induction n204 with
    | zero =>
      intro w2 z H locs ls h
      exact nomatch (h : (none : Option hp_S) = some zq)
    | succ n204 ih204 =>
      have B312 : ∀ (w2 : Int32) (z : hp_S) (H : Heap) (locs : List Loc) (ls : Array Slot), f_X7_learn_B312 fu a0 (f_X7_learn_L204 fu a0 (f_X7_learn_B318 fu a0) n204) (f_X7_learn_B318 fu a0) w2 z = some zq → hp_P G z H → va_S (hp_A G) s.heap H locs → lv_has ls 6 [(0, .ref a0), (2, .int w2)] → W p l e (hp_rm 0 0 0 0) s m [.ref a0].toArray below meth c H locs 0 0 (MQ below (hp_Qv G zq) [.ref a0].toArray s 0 0 (hp_A G)) (F0 m 312 ls []) := by
        intro w2 z H locs ls h hP hS hl
        unfold f_X7_learn_B312 at h
        obtain ⟨v2, q, h⟩ := ho_bd h
        refine lv_iinc (v := v2) (lv' := [(2, .int v2), (0, .ref a0)]) hx hb dX7_learn_312 hl (k := 1) rfl (Option.some.inj q) (by decide) rfl (fun ls hl => ?_)
        refine lv_goto (tgt := 204) hx hb dX7_learn_315 (by decide) ?_
        exact ih204 v2 z _ _ _ h hP hS (lv_sub hl [1, 0] rfl)
      have L217 : ∀ (n217 : Nat) (w2 : Int32) (w3 : Int32) (w4 : Int32) (z : hp_S) (H : Heap) (locs : List Loc) (ls : Array Slot), f_X7_learn_L217 fu a0 (f_X7_learn_B312 fu a0 (f_X7_learn_L204 fu a0 (f_X7_learn_B318 fu a0) n204) (f_X7_learn_B318 fu a0)) n217 w2 w3 w4 z = some zq → hp_P G z H → va_S (hp_A G) s.heap H locs → lv_has ls 6 [(0, .ref a0), (2, .int w2), (3, .int w3), (4, .int w4)] → W p l e (hp_rm 0 0 0 0) s m [.ref a0].toArray below meth c H locs 0 0 (MQ below (hp_Qv G zq) [.ref a0].toArray s 0 0 (hp_A G)) (F0 m 217 ls []) := by
        intro n217
        induction n217 with
        | zero =>
          intro w2 w3 w4 z H locs ls h
          exact nomatch (h : (none : Option hp_S) = some zq)
        | succ n217 ih217 =>
          have B305 : ∀ (w2 : Int32) (w3 : Int32) (w4 : Int32) (s0 : Int32) (s1 : Int32) (s2 : Nat) (z : hp_S) (H : Heap) (locs : List Loc) (ls : Array Slot), f_X7_learn_B305 fu a0 (f_X7_learn_L217 fu a0 (f_X7_learn_B312 fu a0 (f_X7_learn_L204 fu a0 (f_X7_learn_B318 fu a0) n204) (f_X7_learn_B318 fu a0)) n217) (f_X7_learn_B312 fu a0 (f_X7_learn_L204 fu a0 (f_X7_learn_B318 fu a0) n204) (f_X7_learn_B318 fu a0)) w2 w3 w4 s0 s1 s2 z = some zq → hp_P G z H → va_S (hp_A G) s.heap H locs → lv_has ls 6 [(0, .ref a0), (2, .int w2), (3, .int w3), (4, .int w4)] → W p l e (hp_rm 0 0 0 0) s m [.ref a0].toArray below meth c H locs 0 0 (MQ below (hp_Qv G zq) [.ref a0].toArray s 0 0 (hp_A G)) (F0 m 305 ls [.int s0, .int s1, .ref s2]) := by
            intro w2 w3 w4 s0 s1 s2 z H locs ls h hP hS hl
            unfold f_X7_learn_B305 at h
            obtain ⟨z, q, h⟩ := ho_bd h
            refine hw_si X hP hS q dX7_learn_305 (fun H locs hP hS => ?_)
            obtain ⟨v6, q, h⟩ := ho_bd h
            refine lv_iinc (v := v6) (lv' := [(4, .int v6), (0, .ref a0), (2, .int w2), (3, .int w3)]) hx hb dX7_learn_306 hl (k := 3) rfl (Option.some.inj q) (by decide) rfl (fun ls hl => ?_)
            refine lv_goto (tgt := 217) hx hb dX7_learn_309 (by decide) ?_
            exact ih217 w2 w3 v6 z _ _ _ h hP hS (lv_sub hl [1, 2, 3, 0] rfl)
          have B299 : ∀ (w2 : Int32) (w3 : Int32) (w4 : Int32) (s0 : Int32) (s1 : Nat) (z : hp_S) (H : Heap) (locs : List Loc) (ls : Array Slot), f_X7_learn_B299 fu a0 (f_X7_learn_L217 fu a0 (f_X7_learn_B312 fu a0 (f_X7_learn_L204 fu a0 (f_X7_learn_B318 fu a0) n204) (f_X7_learn_B318 fu a0)) n217) (f_X7_learn_B312 fu a0 (f_X7_learn_L204 fu a0 (f_X7_learn_B318 fu a0) n204) (f_X7_learn_B318 fu a0)) w2 w3 w4 s0 s1 z = some zq → hp_P G z H → va_S (hp_A G) s.heap H locs → lv_has ls 6 [(0, .ref a0), (2, .int w2), (3, .int w3), (4, .int w4)] → W p l e (hp_rm 0 0 0 0) s m [.ref a0].toArray below meth c H locs 0 0 (MQ below (hp_Qv G zq) [.ref a0].toArray s 0 0 (hp_A G)) (F0 m 299 ls [.int s0, .ref s1]) := by
            intro w2 w3 w4 s0 s1 z H locs ls h hP hS hl
            unfold f_X7_learn_B299 at h
            refine lv_iconst (v := (-1)) hx hb dX7_learn_299 (by decide) ?_
            refine lv_goto (tgt := 305) hx hb dX7_learn_300 (by decide) ?_
            exact B305 w2 w3 w4 (-1) s0 s1 z _ _ _ h hP hS (lv_sub hl [0, 1, 2, 3] rfl)
          have B263 : ∀ (w2 : Int32) (w3 : Int32) (w4 : Int32) (z : hp_S) (H : Heap) (locs : List Loc) (ls : Array Slot), f_X7_learn_B263 fu a0 (f_X7_learn_L217 fu a0 (f_X7_learn_B312 fu a0 (f_X7_learn_L204 fu a0 (f_X7_learn_B318 fu a0) n204) (f_X7_learn_B318 fu a0)) n217) (f_X7_learn_B312 fu a0 (f_X7_learn_L204 fu a0 (f_X7_learn_B318 fu a0) n204) (f_X7_learn_B318 fu a0)) w2 w3 w4 z = some zq → hp_P G z H → va_S (hp_A G) s.heap H locs → lv_has ls 6 [(0, .ref a0), (2, .int w2), (3, .int w3), (4, .int w4)] → W p l e (hp_rm 0 0 0 0) s m [.ref a0].toArray below meth c H locs 0 0 (MQ below (hp_Qv G zq) [.ref a0].toArray s 0 0 (hp_A G)) (F0 m 263 ls []) := by
            intro w2 w3 w4 z H locs ls h hP hS hl
            unfold f_X7_learn_B263 at h
            refine lv_bipush (v := 24) hx hb dX7_learn_263 (by decide) ?_
            refine lv_iload_n hx hb dX7_learn_265 rfl (lv_at hl 1 rfl) ?_
            refine lv_imul hx hb dX7_learn_266 ?_
            refine lv_iload_n hx hb dX7_learn_267 rfl (lv_at hl 2 rfl) ?_
            refine lv_iadd hx hb dX7_learn_268 ?_
            refine lv_iconst (v := 1) hx hb dX7_learn_269 (by decide) ?_
            refine lv_isub hx hb dX7_learn_270 ?_
            obtain ⟨v4, q, h⟩ := ho_bd h
            refine hw_id q ?_
            refine lv_istore (lv' := [(5, .int v4), (0, .ref a0), (2, .int w2), (3, .int w3), (4, .int w4)]) hx hb dX7_learn_271 hl (by decide) rfl (fun ls hl => ?_)
            refine lv_aload_n hx hb dX7_learn_273 rfl (lv_at hl 1 rfl) ?_
            obtain ⟨r5, q, h⟩ := ho_bd h
            refine hw_gr X hP LX7 fX7_47 rfl q dX7_learn_274 ?_
            refine lv_bipush (v := 120) hx hb dX7_learn_277 (by decide) ?_
            refine lv_iload_n hx hb dX7_learn_279 rfl (lv_at hl 2 rfl) ?_
            refine lv_imul hx hb dX7_learn_280 ?_
            refine lv_iload hx hb dX7_learn_281 (lv_at hl 4 rfl) ?_
            refine lv_iadd hx hb dX7_learn_283 ?_
            refine lv_iload_n hx hb dX7_learn_284 rfl (lv_at hl 3 rfl) ?_
            refine lv_if_eq (tgt := 299) hx hb dX7_learn_285 (by decide) (fun hc => ?_) (fun hc => ?_)
            · replace h := ho_ip hc h
              exact B299 w2 w3 w4 ((120 * w2) + w4) r5 z _ _ _ h hP hS (lv_sub hl [1, 2, 3, 4] rfl)
            · replace h := ho_in hc h
              refine lv_aload_n hx hb dX7_learn_288 rfl (lv_at hl 1 rfl) ?_
              obtain ⟨r7, q, h⟩ := ho_bd h
              refine hw_gr X hP LX7 fX7_16 rfl q dX7_learn_289 ?_
              refine lv_iload hx hb dX7_learn_292 (lv_at hl 0 rfl) ?_
              obtain ⟨v8, q, h⟩ := ho_bd h
              refine hw_li X hP q dX7_learn_294 ?_
              refine lv_iconst (v := (-1)) hx hb dX7_learn_295 (by decide) ?_
              refine lv_icmp_ne (tgt := 303) hx hb dX7_learn_296 (by decide) (fun hc => ?_) (fun hc => ?_)
              · replace h := ho_in hc h
                refine lv_iload hx hb dX7_learn_303 (lv_at hl 0 rfl) ?_
                exact B305 w2 w3 w4 v4 ((120 * w2) + w4) r5 z _ _ _ h hP hS (lv_sub hl [1, 2, 3, 4] rfl)
              · replace h := ho_ip hc h
                exact B299 w2 w3 w4 ((120 * w2) + w4) r5 z _ _ _ h hP hS (lv_sub hl [1, 2, 3, 4] rfl)
          have L226 : ∀ (n226 : Nat) (w2 : Int32) (w3 : Int32) (w4 : Int32) (z : hp_S) (H : Heap) (locs : List Loc) (ls : Array Slot), f_X7_learn_L226 fu a0 (f_X7_learn_B263 fu a0 (f_X7_learn_L217 fu a0 (f_X7_learn_B312 fu a0 (f_X7_learn_L204 fu a0 (f_X7_learn_B318 fu a0) n204) (f_X7_learn_B318 fu a0)) n217) (f_X7_learn_B312 fu a0 (f_X7_learn_L204 fu a0 (f_X7_learn_B318 fu a0) n204) (f_X7_learn_B318 fu a0))) n226 w2 w3 w4 z = some zq → hp_P G z H → va_S (hp_A G) s.heap H locs → lv_has ls 6 [(0, .ref a0), (2, .int w2), (3, .int w3), (4, .int w4)] → W p l e (hp_rm 0 0 0 0) s m [.ref a0].toArray below meth c H locs 0 0 (MQ below (hp_Qv G zq) [.ref a0].toArray s 0 0 (hp_A G)) (F0 m 226 ls []) := by
            intro n226
            induction n226 with
            | zero =>
              intro w2 w3 w4 z H locs ls h
              exact nomatch (h : (none : Option hp_S) = some zq)
            | succ n226 ih226 =>
              intro w2 w3 w4 z H locs ls h hP hS hl
              rw [f_X7_learn_L226] at h
              refine lv_iload_n hx hb dX7_learn_226 rfl (lv_at hl 2 rfl) ?_
              refine lv_aload_n hx hb dX7_learn_227 rfl (lv_at hl 0 rfl) ?_
              obtain ⟨r9, q, h⟩ := ho_bd h
              refine hw_gr X hP LX7 fX7_7 rfl q dX7_learn_228 ?_
              refine lv_iload_n hx hb dX7_learn_231 rfl (lv_at hl 1 rfl) ?_
              obtain ⟨v10, q, h⟩ := ho_bd h
              refine hw_li X hP q dX7_learn_232 ?_
              refine lv_icmp_ge (tgt := 263) hx hb dX7_learn_233 (by decide) (fun hc => ?_) (fun hc => ?_)
              · replace h := ho_ip hc h
                exact B263 w2 w3 w4 z _ _ _ h hP hS (lv_sub hl [0, 1, 2, 3] rfl)
              · replace h := ho_in hc h
                refine lv_aload_n hx hb dX7_learn_236 rfl (lv_at hl 0 rfl) ?_
                obtain ⟨r11, q, h⟩ := ho_bd h
                refine hw_gr X hP LX7 fX7_13 rfl q dX7_learn_237 ?_
                refine lv_bipush (v := 24) hx hb dX7_learn_240 (by decide) ?_
                refine lv_iload_n hx hb dX7_learn_242 rfl (lv_at hl 1 rfl) ?_
                refine lv_imul hx hb dX7_learn_243 ?_
                refine lv_iload_n hx hb dX7_learn_244 rfl (lv_at hl 2 rfl) ?_
                refine lv_iadd hx hb dX7_learn_245 ?_
                obtain ⟨v12, q, h⟩ := ho_bd h
                refine hw_li X hP q dX7_learn_246 ?_
                refine lv_aload_n hx hb dX7_learn_247 rfl (lv_at hl 0 rfl) ?_
                obtain ⟨r13, q, h⟩ := ho_bd h
                refine hw_gr X hP LX7 fX7_44 rfl q dX7_learn_248 ?_
                refine lv_iload hx hb dX7_learn_251 (lv_at hl 3 rfl) ?_
                obtain ⟨v14, q, h⟩ := ho_bd h
                refine hw_li X hP q dX7_learn_253 ?_
                refine lv_icmp_gt (tgt := 263) hx hb dX7_learn_254 (by decide) (fun hc => ?_) (fun hc => ?_)
                · replace h := ho_ip hc h
                  exact B263 w2 w3 w4 z _ _ _ h hP hS (lv_sub hl [0, 1, 2, 3] rfl)
                · replace h := ho_in hc h
                  obtain ⟨v15, q, h⟩ := ho_bd h
                  refine lv_iinc (v := v15) (lv' := [(3, .int v15), (0, .ref a0), (2, .int w2), (4, .int w4)]) hx hb dX7_learn_257 hl (k := 2) rfl (Option.some.inj q) (by decide) rfl (fun ls hl => ?_)
                  refine lv_goto (tgt := 226) hx hb dX7_learn_260 (by decide) ?_
                  exact ih226 w2 v15 w4 z _ _ _ h hP hS (lv_sub hl [1, 2, 0, 3] rfl)
          intro w2 w3 w4 z H locs ls h hP hS hl
          rw [f_X7_learn_L217] at h
          refine lv_iload hx hb dX7_learn_217 (lv_at hl 3 rfl) ?_
          refine lv_aload_n hx hb dX7_learn_219 rfl (lv_at hl 0 rfl) ?_
          obtain ⟨v3, q, h⟩ := ho_bd h
          refine hw_gi X hP LX7 fX7_100 rfl q dX7_learn_220 ?_
          refine lv_icmp_ge (tgt := 312) hx hb dX7_learn_223 (by decide) (fun hc => ?_) (fun hc => ?_)
          · replace h := ho_ip hc h
            exact B312 w2 z _ _ _ h hP hS (lv_sub hl [0, 1] rfl)
          · replace h := ho_in hc h
            exact L226 fu w2 w3 w4 z _ _ _ h hP hS (lv_sub hl [0, 1, 2, 3] rfl)
      intro w2 z H locs ls h hP hS hl
      rw [f_X7_learn_L204] at h
      refine lv_iload_n hx hb dX7_learn_204 rfl (lv_at hl 1 rfl) ?_
      refine lv_aload_n hx hb dX7_learn_205 rfl (lv_at hl 0 rfl) ?_
      obtain ⟨v1, q, h⟩ := ho_bd h
      refine hw_gi X hP LX7 fX7_56 rfl q dX7_learn_206 ?_
      refine lv_icmp_ge (tgt := 318) hx hb dX7_learn_209 (by decide) (fun hc => ?_) (fun hc => ?_)
      · replace h := ho_ip hc h
        exact B318 z _ _ _ h hP hS (lv_sub hl [0] rfl)
      · replace h := ho_in hc h
        refine lv_iconst (v := 0) hx hb dX7_learn_212 (by decide) ?_
        refine lv_istore_n (lv' := [(3, .int 0), (0, .ref a0), (2, .int w2)]) hx hb dX7_learn_213 rfl hl (by decide) rfl (fun ls hl => ?_)
        refine lv_iconst (v := 0) hx hb dX7_learn_214 (by decide) ?_
        refine lv_istore (lv' := [(4, .int 0), (3, .int 0), (0, .ref a0), (2, .int w2)]) hx hb dX7_learn_215 hl (by decide) rfl (fun ls hl => ?_)
        exact L217 fu w2 0 0 z _ _ _ h hP hS (lv_sub hl [2, 3, 1, 0] rfl)
  have B202 : ∀ (z : hp_S) (H : Heap) (locs : List Loc) (ls : Array Slot), f_X7_learn_B202 fu a0 z = some zq → hp_P G z H → va_S (hp_A G) s.heap H locs → lv_has ls 6 [(0, .ref a0)] → W p l e (hp_rm 0 0 0 0) s m [.ref a0].toArray below meth c H locs 0 0 (MQ below (hp_Qv G zq) [.ref a0].toArray s 0 0 (hp_A G)) (F0 m 202 ls []) := by
    intro z H locs ls h hP hS hl
    unfold f_X7_learn_B202 at h
    refine lv_iconst (v := 0) hx hb dX7_learn_202 (by decide) ?_
    refine lv_istore_n (lv' := [(2, .int 0), (0, .ref a0)]) hx hb dX7_learn_203 rfl hl (by decide) rfl (fun ls hl => ?_)
    exact L204 fu 0 z _ _ _ h hP hS (lv_sub hl [1, 0] rfl)
  have L68 : ∀ (n68 : Nat) (w1 : Int32) (w2 : Int32) (z : hp_S) (H : Heap) (locs : List Loc) (ls : Array Slot), f_X7_learn_L68 fu a0 (f_X7_learn_B202 fu a0) n68 w1 w2 z = some zq → hp_P G z H → va_S (hp_A G) s.heap H locs → lv_has ls 6 [(0, .ref a0), (1, .int w1), (2, .int w2)] → W p l e (hp_rm 0 0 0 0) s m [.ref a0].toArray below meth c H locs 0 0 (MQ below (hp_Qv G zq) [.ref a0].toArray s 0 0 (hp_A G)) (F0 m 68 ls []) := by
    intro n68
    induction n68 with
    | zero =>
      intro w1 w2 z H locs ls h
      exact nomatch (h : (none : Option hp_S) = some zq)
    | succ n68 ih68 =>
      have B196 : ∀ (w1 : Int32) (w2 : Int32) (z : hp_S) (H : Heap) (locs : List Loc) (ls : Array Slot), f_X7_learn_B196 fu a0 (f_X7_learn_L68 fu a0 (f_X7_learn_B202 fu a0) n68) (f_X7_learn_B202 fu a0) w1 w2 z = some zq → hp_P G z H → va_S (hp_A G) s.heap H locs → lv_has ls 6 [(0, .ref a0), (1, .int w1), (2, .int w2)] → W p l e (hp_rm 0 0 0 0) s m [.ref a0].toArray below meth c H locs 0 0 (MQ below (hp_Qv G zq) [.ref a0].toArray s 0 0 (hp_A G)) (F0 m 196 ls []) := by
        intro w1 w2 z H locs ls h hP hS hl
        unfold f_X7_learn_B196 at h
        obtain ⟨v17, q, h⟩ := ho_bd h
        refine lv_iinc (v := v17) (lv' := [(2, .int v17), (0, .ref a0), (1, .int w1)]) hx hb dX7_learn_196 hl (k := 2) rfl (Option.some.inj q) (by decide) rfl (fun ls hl => ?_)
        refine lv_goto (tgt := 68) hx hb dX7_learn_199 (by decide) ?_
        exact ih68 w1 v17 z _ _ _ h hP hS (lv_sub hl [1, 2, 0] rfl)
      have B172 : ∀ (w1 : Int32) (w2 : Int32) (w3 : Int32) (z : hp_S) (H : Heap) (locs : List Loc) (ls : Array Slot), f_X7_learn_B172 fu a0 (f_X7_learn_L68 fu a0 (f_X7_learn_B202 fu a0) n68) (f_X7_learn_B202 fu a0) w1 w2 w3 z = some zq → hp_P G z H → va_S (hp_A G) s.heap H locs → lv_has ls 6 [(0, .ref a0), (1, .int w1), (2, .int w2), (3, .int w3)] → W p l e (hp_rm 0 0 0 0) s m [.ref a0].toArray below meth c H locs 0 0 (MQ below (hp_Qv G zq) [.ref a0].toArray s 0 0 (hp_A G)) (F0 m 172 ls []) := by
        intro w1 w2 w3 z H locs ls h hP hS hl
        unfold f_X7_learn_B172 at h
        refine lv_iload_n hx hb dX7_learn_172 rfl (lv_at hl 3 rfl) ?_
        refine lv_if_eq (tgt := 196) hx hb dX7_learn_173 (by decide) (fun hc => ?_) (fun hc => ?_)
        · replace h := ho_ip hc h
          exact B196 w1 w2 z _ _ _ h hP hS (lv_sub hl [0, 1, 2] rfl)
        · replace h := ho_in hc h
          refine lv_aload_n hx hb dX7_learn_176 rfl (lv_at hl 0 rfl) ?_
          obtain ⟨r18, q, h⟩ := ho_bd h
          refine hw_gr X hP LX7 fX7_44 rfl q dX7_learn_177 ?_
          refine lv_aload_n hx hb dX7_learn_180 rfl (lv_at hl 0 rfl) ?_
          obtain ⟨v19, q, h⟩ := ho_bd h
          refine hw_gi X hP LX7 fX7_100 rfl q dX7_learn_181 ?_
          refine lv_iload_n hx hb dX7_learn_184 rfl (lv_at hl 2 rfl) ?_
          obtain ⟨z, q, h⟩ := ho_bd h
          refine hw_si X hP hS q dX7_learn_185 (fun H locs hP hS => ?_)
          refine lv_aload_n hx hb dX7_learn_186 rfl (lv_at hl 0 rfl) ?_
          refine lv_dup hx hb dX7_learn_187 rfl ?_
          obtain ⟨v20, q, h⟩ := ho_bd h
          refine hw_gi X hP LX7 fX7_100 rfl q dX7_learn_188 ?_
          refine lv_iconst (v := 1) hx hb dX7_learn_191 (by decide) ?_
          refine lv_iadd hx hb dX7_learn_192 ?_
          obtain ⟨z, q, h⟩ := ho_bd h
          refine hw_pi X hP hS LX7 fX7_100 rfl rfl rfl q dX7_learn_193 (fun H locs hP hS => ?_)
          exact B196 w1 w2 z _ _ _ h hP hS (lv_sub hl [0, 1, 2] rfl)
      have L98 : ∀ (n98 : Nat) (w1 : Int32) (w2 : Int32) (w3 : Int32) (w4 : Int32) (z : hp_S) (H : Heap) (locs : List Loc) (ls : Array Slot), f_X7_learn_L98 fu a0 (f_X7_learn_B172 fu a0 (f_X7_learn_L68 fu a0 (f_X7_learn_B202 fu a0) n68) (f_X7_learn_B202 fu a0)) n98 w1 w2 w3 w4 z = some zq → hp_P G z H → va_S (hp_A G) s.heap H locs → lv_has ls 6 [(0, .ref a0), (1, .int w1), (2, .int w2), (3, .int w3), (4, .int w4)] → W p l e (hp_rm 0 0 0 0) s m [.ref a0].toArray below meth c H locs 0 0 (MQ below (hp_Qv G zq) [.ref a0].toArray s 0 0 (hp_A G)) (F0 m 98 ls []) := by
        intro n98
        induction n98 with
        | zero =>
          intro w1 w2 w3 w4 z H locs ls h
          exact nomatch (h : (none : Option hp_S) = some zq)
        | succ n98 ih98 =>
          have B166 : ∀ (w1 : Int32) (w2 : Int32) (w3 : Int32) (w4 : Int32) (z : hp_S) (H : Heap) (locs : List Loc) (ls : Array Slot), f_X7_learn_B166 fu a0 (f_X7_learn_L98 fu a0 (f_X7_learn_B172 fu a0 (f_X7_learn_L68 fu a0 (f_X7_learn_B202 fu a0) n68) (f_X7_learn_B202 fu a0)) n98) (f_X7_learn_B172 fu a0 (f_X7_learn_L68 fu a0 (f_X7_learn_B202 fu a0) n68) (f_X7_learn_B202 fu a0)) w1 w2 w3 w4 z = some zq → hp_P G z H → va_S (hp_A G) s.heap H locs → lv_has ls 6 [(0, .ref a0), (1, .int w1), (2, .int w2), (3, .int w3), (4, .int w4)] → W p l e (hp_rm 0 0 0 0) s m [.ref a0].toArray below meth c H locs 0 0 (MQ below (hp_Qv G zq) [.ref a0].toArray s 0 0 (hp_A G)) (F0 m 166 ls []) := by
            intro w1 w2 w3 w4 z H locs ls h hP hS hl
            unfold f_X7_learn_B166 at h
            obtain ⟨v23, q, h⟩ := ho_bd h
            refine lv_iinc (v := v23) (lv' := [(4, .int v23), (0, .ref a0), (1, .int w1), (2, .int w2), (3, .int w3)]) hx hb dX7_learn_166 hl (k := 4) rfl (Option.some.inj q) (by decide) rfl (fun ls hl => ?_)
            refine lv_goto (tgt := 98) hx hb dX7_learn_169 (by decide) ?_
            exact ih98 w1 w2 w3 v23 z _ _ _ h hP hS (lv_sub hl [1, 2, 3, 4, 0] rfl)
          have L121 : ∀ (n121 : Nat) (w1 : Int32) (w2 : Int32) (w3 : Int32) (w4 : Int32) (w5 : Int32) (z : hp_S) (H : Heap) (locs : List Loc) (ls : Array Slot), f_X7_learn_L121 fu a0 (f_X7_learn_B166 fu a0 (f_X7_learn_L98 fu a0 (f_X7_learn_B172 fu a0 (f_X7_learn_L68 fu a0 (f_X7_learn_B202 fu a0) n68) (f_X7_learn_B202 fu a0)) n98) (f_X7_learn_B172 fu a0 (f_X7_learn_L68 fu a0 (f_X7_learn_B202 fu a0) n68) (f_X7_learn_B202 fu a0))) n121 w1 w2 w3 w4 w5 z = some zq → hp_P G z H → va_S (hp_A G) s.heap H locs → lv_has ls 6 [(0, .ref a0), (1, .int w1), (2, .int w2), (3, .int w3), (4, .int w4), (5, .int w5)] → W p l e (hp_rm 0 0 0 0) s m [.ref a0].toArray below meth c H locs 0 0 (MQ below (hp_Qv G zq) [.ref a0].toArray s 0 0 (hp_A G)) (F0 m 121 ls []) := by
            intro n121
            induction n121 with
            | zero =>
              intro w1 w2 w3 w4 w5 z H locs ls h
              exact nomatch (h : (none : Option hp_S) = some zq)
            | succ n121 ih121 =>
              have B159 : ∀ (w1 : Int32) (w2 : Int32) (w4 : Int32) (w5 : Int32) (s0 : Int32) (z : hp_S) (H : Heap) (locs : List Loc) (ls : Array Slot), f_X7_learn_B159 fu a0 (f_X7_learn_L121 fu a0 (f_X7_learn_B166 fu a0 (f_X7_learn_L98 fu a0 (f_X7_learn_B172 fu a0 (f_X7_learn_L68 fu a0 (f_X7_learn_B202 fu a0) n68) (f_X7_learn_B202 fu a0)) n98) (f_X7_learn_B172 fu a0 (f_X7_learn_L68 fu a0 (f_X7_learn_B202 fu a0) n68) (f_X7_learn_B202 fu a0))) n121) (f_X7_learn_B166 fu a0 (f_X7_learn_L98 fu a0 (f_X7_learn_B172 fu a0 (f_X7_learn_L68 fu a0 (f_X7_learn_B202 fu a0) n68) (f_X7_learn_B202 fu a0)) n98) (f_X7_learn_B172 fu a0 (f_X7_learn_L68 fu a0 (f_X7_learn_B202 fu a0) n68) (f_X7_learn_B202 fu a0))) w1 w2 w4 w5 s0 z = some zq → hp_P G z H → va_S (hp_A G) s.heap H locs → lv_has ls 6 [(0, .ref a0), (1, .int w1), (2, .int w2), (4, .int w4), (5, .int w5)] → W p l e (hp_rm 0 0 0 0) s m [.ref a0].toArray below meth c H locs 0 0 (MQ below (hp_Qv G zq) [.ref a0].toArray s 0 0 (hp_A G)) (F0 m 159 ls [.int s0]) := by
                intro w1 w2 w4 w5 s0 z H locs ls h hP hS hl
                unfold f_X7_learn_B159 at h
                refine lv_istore_n (lv' := [(3, .int s0), (0, .ref a0), (1, .int w1), (2, .int w2), (4, .int w4), (5, .int w5)]) hx hb dX7_learn_159 rfl hl (by decide) rfl (fun ls hl => ?_)
                obtain ⟨v26, q, h⟩ := ho_bd h
                refine lv_iinc (v := v26) (lv' := [(5, .int v26), (3, .int s0), (0, .ref a0), (1, .int w1), (2, .int w2), (4, .int w4)]) hx hb dX7_learn_160 hl (k := 5) rfl (Option.some.inj q) (by decide) rfl (fun ls hl => ?_)
                refine lv_goto (tgt := 121) hx hb dX7_learn_163 (by decide) ?_
                exact ih121 w1 w2 s0 w4 v26 z _ _ _ h hP hS (lv_sub hl [2, 3, 4, 1, 5, 0] rfl)
              have B154 : ∀ (w1 : Int32) (w2 : Int32) (w4 : Int32) (w5 : Int32) (z : hp_S) (H : Heap) (locs : List Loc) (ls : Array Slot), f_X7_learn_B154 fu a0 (f_X7_learn_L121 fu a0 (f_X7_learn_B166 fu a0 (f_X7_learn_L98 fu a0 (f_X7_learn_B172 fu a0 (f_X7_learn_L68 fu a0 (f_X7_learn_B202 fu a0) n68) (f_X7_learn_B202 fu a0)) n98) (f_X7_learn_B172 fu a0 (f_X7_learn_L68 fu a0 (f_X7_learn_B202 fu a0) n68) (f_X7_learn_B202 fu a0))) n121) (f_X7_learn_B166 fu a0 (f_X7_learn_L98 fu a0 (f_X7_learn_B172 fu a0 (f_X7_learn_L68 fu a0 (f_X7_learn_B202 fu a0) n68) (f_X7_learn_B202 fu a0)) n98) (f_X7_learn_B172 fu a0 (f_X7_learn_L68 fu a0 (f_X7_learn_B202 fu a0) n68) (f_X7_learn_B202 fu a0))) w1 w2 w4 w5 z = some zq → hp_P G z H → va_S (hp_A G) s.heap H locs → lv_has ls 6 [(0, .ref a0), (1, .int w1), (2, .int w2), (4, .int w4), (5, .int w5)] → W p l e (hp_rm 0 0 0 0) s m [.ref a0].toArray below meth c H locs 0 0 (MQ below (hp_Qv G zq) [.ref a0].toArray s 0 0 (hp_A G)) (F0 m 154 ls []) := by
                intro w1 w2 w4 w5 z H locs ls h hP hS hl
                unfold f_X7_learn_B154 at h
                refine lv_iconst (v := 1) hx hb dX7_learn_154 (by decide) ?_
                refine lv_goto (tgt := 159) hx hb dX7_learn_155 (by decide) ?_
                exact B159 w1 w2 w4 w5 1 z _ _ _ h hP hS (lv_sub hl [0, 1, 2, 3, 4] rfl)
              intro w1 w2 w3 w4 w5 z H locs ls h hP hS hl
              rw [f_X7_learn_L121] at h
              refine lv_iload hx hb dX7_learn_121 (lv_at hl 5 rfl) ?_
              refine lv_aload_n hx hb dX7_learn_123 rfl (lv_at hl 0 rfl) ?_
              obtain ⟨r24, q, h⟩ := ho_bd h
              refine hw_gr X hP LX7 fX7_7 rfl q dX7_learn_124 ?_
              refine lv_iload hx hb dX7_learn_127 (lv_at hl 4 rfl) ?_
              obtain ⟨v25, q, h⟩ := ho_bd h
              refine hw_li X hP q dX7_learn_129 ?_
              refine lv_icmp_ge (tgt := 166) hx hb dX7_learn_130 (by decide) (fun hc => ?_) (fun hc => ?_)
              · replace h := ho_ip hc h
                exact B166 w1 w2 w3 w4 z _ _ _ h hP hS (lv_sub hl [0, 1, 2, 3, 4] rfl)
              · replace h := ho_in hc h
                refine lv_iload_n hx hb dX7_learn_133 rfl (lv_at hl 3 rfl) ?_
                refine lv_if_ne (tgt := 154) hx hb dX7_learn_134 (by decide) (fun hc => ?_) (fun hc => ?_)
                · replace h := ho_in hc h
                  exact B154 w1 w2 w4 w5 z _ _ _ h hP hS (lv_sub hl [0, 1, 2, 4, 5] rfl)
                · replace h := ho_ip hc h
                  refine lv_aload_n hx hb dX7_learn_137 rfl (lv_at hl 0 rfl) ?_
                  obtain ⟨r27, q, h⟩ := ho_bd h
                  refine hw_gr X hP LX7 fX7_13 rfl q dX7_learn_138 ?_
                  refine lv_bipush (v := 24) hx hb dX7_learn_141 (by decide) ?_
                  refine lv_iload hx hb dX7_learn_143 (lv_at hl 4 rfl) ?_
                  refine lv_imul hx hb dX7_learn_145 ?_
                  refine lv_iload hx hb dX7_learn_146 (lv_at hl 5 rfl) ?_
                  refine lv_iadd hx hb dX7_learn_148 ?_
                  obtain ⟨v28, q, h⟩ := ho_bd h
                  refine hw_li X hP q dX7_learn_149 ?_
                  refine lv_iload_n hx hb dX7_learn_150 rfl (lv_at hl 2 rfl) ?_
                  refine lv_icmp_ne (tgt := 158) hx hb dX7_learn_151 (by decide) (fun hc => ?_) (fun hc => ?_)
                  · replace h := ho_in hc h
                    refine lv_iconst (v := 0) hx hb dX7_learn_158 (by decide) ?_
                    exact B159 w1 w2 w4 w5 0 z _ _ _ h hP hS (lv_sub hl [0, 1, 2, 4, 5] rfl)
                  · replace h := ho_ip hc h
                    exact B154 w1 w2 w4 w5 z _ _ _ h hP hS (lv_sub hl [0, 1, 2, 4, 5] rfl)
          intro w1 w2 w3 w4 z H locs ls h hP hS hl
          rw [f_X7_learn_L98] at h
          refine lv_iload hx hb dX7_learn_98 (lv_at hl 4 rfl) ?_
          refine lv_aload_n hx hb dX7_learn_100 rfl (lv_at hl 0 rfl) ?_
          obtain ⟨v21, q, h⟩ := ho_bd h
          refine hw_gi X hP LX7 fX7_56 rfl q dX7_learn_101 ?_
          refine lv_icmp_ge (tgt := 172) hx hb dX7_learn_104 (by decide) (fun hc => ?_) (fun hc => ?_)
          · replace h := ho_ip hc h
            exact B172 w1 w2 w3 z _ _ _ h hP hS (lv_sub hl [0, 1, 2, 3] rfl)
          · replace h := ho_in hc h
            refine lv_aload_n hx hb dX7_learn_107 rfl (lv_at hl 0 rfl) ?_
            obtain ⟨v22, q, h⟩ := ho_bd h
            refine hw_gi X hP LX7 fX7_66 rfl q dX7_learn_108 ?_
            refine lv_if_ne (tgt := 172) hx hb dX7_learn_111 (by decide) (fun hc => ?_) (fun hc => ?_)
            · replace h := ho_in hc h
              exact B172 w1 w2 w3 z _ _ _ h hP hS (lv_sub hl [0, 1, 2, 3] rfl)
            · replace h := ho_ip hc h
              refine lv_iload_n hx hb dX7_learn_114 rfl (lv_at hl 3 rfl) ?_
              refine lv_if_ne (tgt := 172) hx hb dX7_learn_115 (by decide) (fun hc => ?_) (fun hc => ?_)
              · replace h := ho_in hc h
                exact B172 w1 w2 w3 z _ _ _ h hP hS (lv_sub hl [0, 1, 2, 3] rfl)
              · replace h := ho_ip hc h
                refine lv_iconst (v := 0) hx hb dX7_learn_118 (by decide) ?_
                refine lv_istore (lv' := [(5, .int 0), (0, .ref a0), (1, .int w1), (2, .int w2), (3, .int w3), (4, .int w4)]) hx hb dX7_learn_119 hl (by decide) rfl (fun ls hl => ?_)
                exact L121 fu w1 w2 w3 w4 0 z _ _ _ h hP hS (lv_sub hl [1, 2, 3, 4, 5, 0] rfl)
      have B94 : ∀ (w1 : Int32) (w2 : Int32) (s0 : Int32) (z : hp_S) (H : Heap) (locs : List Loc) (ls : Array Slot), f_X7_learn_B94 fu a0 (f_X7_learn_L68 fu a0 (f_X7_learn_B202 fu a0) n68) (f_X7_learn_B202 fu a0) w1 w2 s0 z = some zq → hp_P G z H → va_S (hp_A G) s.heap H locs → lv_has ls 6 [(0, .ref a0), (1, .int w1), (2, .int w2)] → W p l e (hp_rm 0 0 0 0) s m [.ref a0].toArray below meth c H locs 0 0 (MQ below (hp_Qv G zq) [.ref a0].toArray s 0 0 (hp_A G)) (F0 m 94 ls [.int s0]) := by
        intro w1 w2 s0 z H locs ls h hP hS hl
        unfold f_X7_learn_B94 at h
        refine lv_istore_n (lv' := [(3, .int s0), (0, .ref a0), (1, .int w1), (2, .int w2)]) hx hb dX7_learn_94 rfl hl (by decide) rfl (fun ls hl => ?_)
        refine lv_iconst (v := 0) hx hb dX7_learn_95 (by decide) ?_
        refine lv_istore (lv' := [(4, .int 0), (3, .int s0), (0, .ref a0), (1, .int w1), (2, .int w2)]) hx hb dX7_learn_96 hl (by decide) rfl (fun ls hl => ?_)
        exact L98 fu w1 w2 s0 0 z _ _ _ h hP hS (lv_sub hl [2, 3, 4, 1, 0] rfl)
      have B93 : ∀ (w1 : Int32) (w2 : Int32) (z : hp_S) (H : Heap) (locs : List Loc) (ls : Array Slot), f_X7_learn_B93 fu a0 (f_X7_learn_L68 fu a0 (f_X7_learn_B202 fu a0) n68) (f_X7_learn_B202 fu a0) w1 w2 z = some zq → hp_P G z H → va_S (hp_A G) s.heap H locs → lv_has ls 6 [(0, .ref a0), (1, .int w1), (2, .int w2)] → W p l e (hp_rm 0 0 0 0) s m [.ref a0].toArray below meth c H locs 0 0 (MQ below (hp_Qv G zq) [.ref a0].toArray s 0 0 (hp_A G)) (F0 m 93 ls []) := by
        intro w1 w2 z H locs ls h hP hS hl
        unfold f_X7_learn_B93 at h
        refine lv_iconst (v := 0) hx hb dX7_learn_93 (by decide) ?_
        exact B94 w1 w2 0 z _ _ _ h hP hS (lv_sub hl [0, 1, 2] rfl)
      intro w1 w2 z H locs ls h hP hS hl
      rw [f_X7_learn_L68] at h
      refine lv_iload_n hx hb dX7_learn_68 rfl (lv_at hl 2 rfl) ?_
      refine lv_iload_n hx hb dX7_learn_69 rfl (lv_at hl 1 rfl) ?_
      refine lv_icmp_gt (tgt := 202) hx hb dX7_learn_70 (by decide) (fun hc => ?_) (fun hc => ?_)
      · replace h := ho_ip hc h
        exact B202 z _ _ _ h hP hS (lv_sub hl [0] rfl)
      · replace h := ho_in hc h
        refine lv_aload_n hx hb dX7_learn_73 rfl (lv_at hl 0 rfl) ?_
        obtain ⟨v16, q, h⟩ := ho_bd h
        refine hw_gi X hP LX7 fX7_66 rfl q dX7_learn_74 ?_
        refine lv_if_le (tgt := 93) hx hb dX7_learn_77 (by decide) (fun hc => ?_) (fun hc => ?_)
        · replace h := ho_ip hc h
          exact B93 w1 w2 z _ _ _ h hP hS (lv_sub hl [0, 1, 2] rfl)
        · replace h := ho_in hc h
          refine lv_iload_n hx hb dX7_learn_80 rfl (lv_at hl 2 rfl) ?_
          refine lv_aload_n hx hb dX7_learn_81 rfl (lv_at hl 0 rfl) ?_
          obtain ⟨v29, q, h⟩ := ho_bd h
          refine hw_gi X hP LX7 fX7_66 rfl q dX7_learn_82 ?_
          obtain ⟨v30, q, h⟩ := ho_bd h
          refine hw_rm X q dX7_learn_85 ?_
          refine lv_if_ne (tgt := 93) hx hb dX7_learn_86 (by decide) (fun hc => ?_) (fun hc => ?_)
          · replace h := ho_in hc h
            exact B93 w1 w2 z _ _ _ h hP hS (lv_sub hl [0, 1, 2] rfl)
          · replace h := ho_ip hc h
            refine lv_iconst (v := 1) hx hb dX7_learn_89 (by decide) ?_
            refine lv_goto (tgt := 94) hx hb dX7_learn_90 (by decide) ?_
            exact B94 w1 w2 1 z _ _ _ h hP hS (lv_sub hl [0, 1, 2] rfl)
  have B66 : ∀ (w1 : Int32) (z : hp_S) (H : Heap) (locs : List Loc) (ls : Array Slot), f_X7_learn_B66 fu a0 w1 z = some zq → hp_P G z H → va_S (hp_A G) s.heap H locs → lv_has ls 6 [(0, .ref a0), (1, .int w1)] → W p l e (hp_rm 0 0 0 0) s m [.ref a0].toArray below meth c H locs 0 0 (MQ below (hp_Qv G zq) [.ref a0].toArray s 0 0 (hp_A G)) (F0 m 66 ls []) := by
    intro w1 z H locs ls h hP hS hl
    unfold f_X7_learn_B66 at h
    refine lv_iconst (v := 0) hx hb dX7_learn_66 (by decide) ?_
    refine lv_istore_n (lv' := [(2, .int 0), (0, .ref a0), (1, .int w1)]) hx hb dX7_learn_67 rfl hl (by decide) rfl (fun ls hl => ?_)
    exact L68 fu w1 0 z _ _ _ h hP hS (lv_sub hl [1, 2, 0] rfl)
  have L9 : ∀ (n9 : Nat) (w1 : Int32) (w2 : Int32) (z : hp_S) (H : Heap) (locs : List Loc) (ls : Array Slot), f_X7_learn_L9 fu a0 (f_X7_learn_B66 fu a0) n9 w1 w2 z = some zq → hp_P G z H → va_S (hp_A G) s.heap H locs → lv_has ls 6 [(0, .ref a0), (1, .int w1), (2, .int w2)] → W p l e (hp_rm 0 0 0 0) s m [.ref a0].toArray below meth c H locs 0 0 (MQ below (hp_Qv G zq) [.ref a0].toArray s 0 0 (hp_A G)) (F0 m 9 ls []) := by
    intro n9
    induction n9 with
    | zero =>
      intro w1 w2 z H locs ls h
      exact nomatch (h : (none : Option hp_S) = some zq)
    | succ n9 ih9 =>
      have B59 : ∀ (w2 : Int32) (s0 : Int32) (z : hp_S) (H : Heap) (locs : List Loc) (ls : Array Slot), f_X7_learn_B59 fu a0 (f_X7_learn_L9 fu a0 (f_X7_learn_B66 fu a0) n9) (f_X7_learn_B66 fu a0) w2 s0 z = some zq → hp_P G z H → va_S (hp_A G) s.heap H locs → lv_has ls 6 [(0, .ref a0), (2, .int w2)] → W p l e (hp_rm 0 0 0 0) s m [.ref a0].toArray below meth c H locs 0 0 (MQ below (hp_Qv G zq) [.ref a0].toArray s 0 0 (hp_A G)) (F0 m 59 ls [.int s0]) := by
        intro w2 s0 z H locs ls h hP hS hl
        unfold f_X7_learn_B59 at h
        refine lv_istore_n (lv' := [(1, .int s0), (0, .ref a0), (2, .int w2)]) hx hb dX7_learn_59 rfl hl (by decide) rfl (fun ls hl => ?_)
        obtain ⟨v38, q, h⟩ := ho_bd h
        refine lv_iinc (v := v38) (lv' := [(2, .int v38), (1, .int s0), (0, .ref a0)]) hx hb dX7_learn_60 hl (k := 2) rfl (Option.some.inj q) (by decide) rfl (fun ls hl => ?_)
        refine lv_goto (tgt := 9) hx hb dX7_learn_63 (by decide) ?_
        exact ih9 s0 v38 z _ _ _ h hP hS (lv_sub hl [2, 1, 0] rfl)
      have B48 : ∀ (w1 : Int32) (w2 : Int32) (s0 : Int32) (z : hp_S) (H : Heap) (locs : List Loc) (ls : Array Slot), f_X7_learn_B48 fu a0 (f_X7_learn_L9 fu a0 (f_X7_learn_B66 fu a0) n9) (f_X7_learn_B66 fu a0) w1 w2 s0 z = some zq → hp_P G z H → va_S (hp_A G) s.heap H locs → lv_has ls 6 [(0, .ref a0), (1, .int w1), (2, .int w2)] → W p l e (hp_rm 0 0 0 0) s m [.ref a0].toArray below meth c H locs 0 0 (MQ below (hp_Qv G zq) [.ref a0].toArray s 0 0 (hp_A G)) (F0 m 48 ls [.int s0]) := by
        intro w1 w2 s0 z H locs ls h hP hS hl
        unfold f_X7_learn_B48 at h
        refine lv_istore_n (lv' := [(3, .int s0), (0, .ref a0), (1, .int w1), (2, .int w2)]) hx hb dX7_learn_48 rfl hl (by decide) rfl (fun ls hl => ?_)
        refine lv_iload_n hx hb dX7_learn_49 rfl (lv_at hl 0 rfl) ?_
        refine lv_iload_n hx hb dX7_learn_50 rfl (lv_at hl 2 rfl) ?_
        refine lv_icmp_le (tgt := 58) hx hb dX7_learn_51 (by decide) (fun hc => ?_) (fun hc => ?_)
        · replace h := ho_ip hc h
          refine lv_iload_n hx hb dX7_learn_58 rfl (lv_at hl 2 rfl) ?_
          exact B59 w2 w1 z _ _ _ h hP hS (lv_sub hl [1, 3] rfl)
        · replace h := ho_in hc h
          refine lv_iload_n hx hb dX7_learn_54 rfl (lv_at hl 0 rfl) ?_
          refine lv_goto (tgt := 59) hx hb dX7_learn_55 (by decide) ?_
          exact B59 w2 s0 z _ _ _ h hP hS (lv_sub hl [1, 3] rfl)
      intro w1 w2 z H locs ls h hP hS hl
      rw [f_X7_learn_L9] at h
      refine lv_iload_n hx hb dX7_learn_9 rfl (lv_at hl 2 rfl) ?_
      refine lv_aload_n hx hb dX7_learn_10 rfl (lv_at hl 0 rfl) ?_
      obtain ⟨v31, q, h⟩ := ho_bd h
      refine hw_gi X hP LX7 fX7_56 rfl q dX7_learn_11 ?_
      refine lv_icmp_ge (tgt := 66) hx hb dX7_learn_14 (by decide) (fun hc => ?_) (fun hc => ?_)
      · replace h := ho_ip hc h
        exact B66 w1 z _ _ _ h hP hS (lv_sub hl [0, 1] rfl)
      · replace h := ho_in hc h
        refine lv_aload_n hx hb dX7_learn_17 rfl (lv_at hl 0 rfl) ?_
        obtain ⟨r32, q, h⟩ := ho_bd h
        refine hw_gr X hP LX7 fX7_7 rfl q dX7_learn_18 ?_
        refine lv_iload_n hx hb dX7_learn_21 rfl (lv_at hl 2 rfl) ?_
        obtain ⟨v33, q, h⟩ := ho_bd h
        refine hw_li X hP q dX7_learn_22 ?_
        refine lv_if_ne (tgt := 30) hx hb dX7_learn_23 (by decide) (fun hc => ?_) (fun hc => ?_)
        · replace h := ho_in hc h
          refine lv_aload_n hx hb dX7_learn_30 rfl (lv_at hl 0 rfl) ?_
          obtain ⟨r34, q, h⟩ := ho_bd h
          refine hw_gr X hP LX7 fX7_13 rfl q dX7_learn_31 ?_
          refine lv_bipush (v := 24) hx hb dX7_learn_34 (by decide) ?_
          refine lv_iload_n hx hb dX7_learn_36 rfl (lv_at hl 2 rfl) ?_
          refine lv_imul hx hb dX7_learn_37 ?_
          refine lv_aload_n hx hb dX7_learn_38 rfl (lv_at hl 0 rfl) ?_
          obtain ⟨r35, q, h⟩ := ho_bd h
          refine hw_gr X hP LX7 fX7_7 rfl q dX7_learn_39 ?_
          refine lv_iload_n hx hb dX7_learn_42 rfl (lv_at hl 2 rfl) ?_
          obtain ⟨v36, q, h⟩ := ho_bd h
          refine hw_li X hP q dX7_learn_43 ?_
          refine lv_iadd hx hb dX7_learn_44 ?_
          refine lv_iconst (v := 1) hx hb dX7_learn_45 (by decide) ?_
          refine lv_isub hx hb dX7_learn_46 ?_
          obtain ⟨v37, q, h⟩ := ho_bd h
          refine hw_li X hP q dX7_learn_47 ?_
          exact B48 w1 w2 v37 z _ _ _ h hP hS (lv_sub hl [0, 1, 2] rfl)
        · replace h := ho_ip hc h
          refine lv_iconst (v := (-1)) hx hb dX7_learn_26 (by decide) ?_
          refine lv_goto (tgt := 48) hx hb dX7_learn_27 (by decide) ?_
          exact B48 w1 w2 (-1) z _ _ _ h hP hS (lv_sub hl [0, 1, 2] rfl)
  unfold f_X7_learn at h
  refine lv_aload_n hx hb dX7_learn_0 rfl (lv_at hl 0 rfl) ?_
  refine lv_iconst (v := 0) hx hb dX7_learn_1 (by decide) ?_
  obtain ⟨z, q, h⟩ := ho_bd h
  refine hw_pi X hP hS LX7 fX7_100 rfl rfl rfl q dX7_learn_2 (fun H locs hP hS => ?_)
  refine lv_iconst (v := (-1)) hx hb dX7_learn_5 (by decide) ?_
  refine lv_istore_n (lv' := [(1, .int (-1)), (0, .ref a0)]) hx hb dX7_learn_6 rfl hl (by decide) rfl (fun ls hl => ?_)
  refine lv_iconst (v := 0) hx hb dX7_learn_7 (by decide) ?_
  refine lv_istore_n (lv' := [(2, .int 0), (1, .int (-1)), (0, .ref a0)]) hx hb dX7_learn_8 rfl hl (by decide) rfl (fun ls hl => ?_)
  exact L9 fu (-1) 0 z _ _ _ h hP hS (lv_sub hl [2, 1, 0] rfl)
def f_X7_grid_B19 (fu : Nat) (a0 : Nat) (x1 : Int32) (z : hp_S) : Option (Int32 × hp_S) :=
  (ho_pi 7 a0 9 x1 z).bind fun z =>
  (ho_is 7 a0 z).bind fun _ =>
  (f_X7_learn fu a0 z).bind fun z =>
  (ho_gi 7 a0 16 z).bind fun v1 =>
  some (v1, z)
def f_X7_grid (fu : Nat) (a0 : Nat) (x1 : Int32) (z : hp_S) : Option (Int32 × hp_S) :=
  if x1 = 0 then (
    f_X7_grid_B19 fu a0 x1  z
  ) else (
    (f_X7_isIn fu x1 10 500 z).bind fun ⟨v2, z⟩ =>
    if v2 = 0 then (
      some ((-2), z)
    ) else (
      f_X7_grid_B19 fu a0 x1  z
    )
  )
set_option maxHeartbeats 4000000 in
set_option maxRecDepth 100000 in
theorem c_X7_grid (l : Launch) (G : hp_G) (fu : Nat) (a0 : Nat) (x1 : Int32) (z : hp_S) (rq : Int32) (zq : hp_S) (h : f_X7_grid fu a0 x1 z = some (rq, zq)) : hp_M l G yX7_grid cX7_grid 2 (some .int) 1 25 0 0 [.ref a0, .int x1] z (hp_Qi G rq zq) := by
  refine hp_M.of (by decide) (Nat.le_of_ble_eq_true rfl) ?_
  intro p e s m below meth c X hr hlocks hnm hP hS ls hl
  have X : hp_C G cX7_grid RX7 2 p s m c := X
  have hl : lv_has ls 2 [(0, .ref a0), (1, .int x1)] := hl
  have hx := X.1
  have hb := X.2.1
  have B19 : ∀ (z : hp_S) (H : Heap) (locs : List Loc) (ls : Array Slot), f_X7_grid_B19 fu a0 x1 z = some (rq, zq) → hp_P G z H → va_S (hp_A G) s.heap H locs → lv_has ls 2 [(0, .ref a0), (1, .int x1)] → W p l e (hp_rm 1 25 0 0) s m [.ref a0, .int x1].toArray below meth c H locs 0 0 (MQ below (hp_Qi G rq zq) [.ref a0, .int x1].toArray s 0 0 (hp_A G)) (F0 m 19 ls []) := by
    intro z H locs ls h hP hS hl
    unfold f_X7_grid_B19 at h
    refine lv_aload_n hx hb dX7_grid_19 rfl (lv_at hl 0 rfl) ?_
    refine lv_iload_n hx hb dX7_grid_20 rfl (lv_at hl 1 rfl) ?_
    obtain ⟨z, q, h⟩ := ho_bd h
    refine hw_pi X hP hS LX7 fX7_66 rfl rfl rfl q dX7_grid_21 (fun H locs hP hS => ?_)
    refine lv_aload_n hx hb dX7_grid_24 rfl (lv_at hl 0 rfl) ?_
    obtain ⟨_, hs, h⟩ := ho_bd h
    obtain ⟨z, q, h⟩ := ho_bd h
    refine hw_cv hS (hp_runV (As := []) (rest := []) X hP hS hl.1 LX7 (ho_is_s hs) kX7_103 ⟨m3_226, mp_24⟩ (c_X7_learn l G fu a0 _ _ q) rfl (Nat.le_of_ble_eq_true rfl) ⟨⟨Nat.le_of_ble_eq_true rfl, Nat.le_of_ble_eq_true rfl⟩, Nat.le_of_ble_eq_true rfl, Nat.le_of_ble_eq_true rfl⟩ dX7_grid_25) (fun H locs hP hS => ?_)
    refine lv_aload_n hx hb dX7_grid_28 rfl (lv_at hl 0 rfl) ?_
    obtain ⟨v1, q, h⟩ := ho_bd h
    refine hw_gi X hP LX7 fX7_100 rfl q dX7_grid_29 ?_
    exact hw_iret X hP hS hr hlocks h dX7_grid_32
  unfold f_X7_grid at h
  refine lv_iload_n hx hb dX7_grid_0 rfl (lv_at hl 1 rfl) ?_
  refine lv_if_eq (tgt := 19) hx hb dX7_grid_1 (by decide) (fun hc => ?_) (fun hc => ?_)
  · replace h := ho_ip hc h
    exact B19 z _ _ _ h hP hS (lv_sub hl [0, 1] rfl)
  · replace h := ho_in hc h
    refine lv_iload_n hx hb dX7_grid_4 rfl (lv_at hl 1 rfl) ?_
    refine lv_bipush (v := 10) hx hb dX7_grid_5 (by decide) ?_
    refine lv_sipush (v := 500) hx hb dX7_grid_7 (by decide) ?_
    obtain ⟨⟨v2, z⟩, q, h⟩ := ho_bd h
    refine hw_ci hS (hp_runS (As := [.int x1, .int 10, .int 500]) (rest := []) X hP hS hl.1 kX7_81 m3_183 (c_X7_isIn l G fu x1 10 500 _ _ _ q) rfl (Nat.le_of_ble_eq_true rfl) ⟨⟨Nat.le_of_ble_eq_true rfl, Nat.le_of_ble_eq_true rfl⟩, Nat.le_of_ble_eq_true rfl, Nat.le_of_ble_eq_true rfl⟩ dX7_grid_10) (fun H locs hP hS => ?_)
    refine lv_if_ne (tgt := 19) hx hb dX7_grid_13 (by decide) (fun hc => ?_) (fun hc => ?_)
    · replace h := ho_in hc h
      exact B19 z _ _ _ h hP hS (lv_sub hl [0, 1] rfl)
    · replace h := ho_ip hc h
      refine lv_bipush (v := (-2)) hx hb dX7_grid_16 (by decide) ?_
      exact hw_iret X hP hS hr hlocks h dX7_grid_18
def f_X7_repeat_B24 (fu : Nat) (a0 : Nat) (x1 : Int32) (x2 : Int32) (z : hp_S) : Option (Int32 × hp_S) :=
  some ((-2), z)
def f_X7_repeat (fu : Nat) (a0 : Nat) (x1 : Int32) (x2 : Int32) (z : hp_S) : Option (Int32 × hp_S) :=
  (f_X7_isIn fu x1 0 999 z).bind fun ⟨v1, z⟩ =>
  if v1 = 0 then (
    f_X7_repeat_B24 fu a0 x1 x2  z
  ) else (
    (f_X7_isIn fu x2 (x1 + 1) 999 z).bind fun ⟨v2, z⟩ =>
    if v2 = 0 then (
      f_X7_repeat_B24 fu a0 x1 x2  z
    ) else (
      (ho_gi 7 a0 10 z).bind fun v3 =>
      if v3 = 4 then (
        some ((-3), z)
      ) else (
        (ho_gr 7 a0 11 z).bind fun r4 =>
        (ho_gi 7 a0 10 z).bind fun v5 =>
        (ho_si r4 v5 x1 z).bind fun z =>
        (ho_gr 7 a0 12 z).bind fun r6 =>
        (ho_gi 7 a0 10 z).bind fun v7 =>
        (ho_si r6 v7 x2 z).bind fun z =>
        (ho_gi 7 a0 10 z).bind fun v8 =>
        (ho_pi 7 a0 10 (v8 + 1) z).bind fun z =>
        (ho_gi 7 a0 10 z).bind fun v9 =>
        some (v9, z)
      )
    )
  )
set_option maxHeartbeats 4000000 in
set_option maxRecDepth 100000 in
theorem c_X7_repeat (l : Launch) (G : hp_G) (fu : Nat) (a0 : Nat) (x1 : Int32) (x2 : Int32) (z : hp_S) (rq : Int32) (zq : hp_S) (h : f_X7_repeat fu a0 x1 x2 z = some (rq, zq)) : hp_M l G yX7_repeat cX7_repeat 3 (some .int) 1 22 0 0 [.ref a0, .int x1, .int x2] z (hp_Qi G rq zq) := by
  refine hp_M.of (by decide) (Nat.le_of_ble_eq_true rfl) ?_
  intro p e s m below meth c X hr hlocks hnm hP hS ls hl
  have X : hp_C G cX7_repeat RX7 3 p s m c := X
  have hl : lv_has ls 3 [(0, .ref a0), (1, .int x1), (2, .int x2)] := hl
  have hx := X.1
  have hb := X.2.1
  have B24 : ∀ (z : hp_S) (H : Heap) (locs : List Loc) (ls : Array Slot), f_X7_repeat_B24 fu a0 x1 x2 z = some (rq, zq) → hp_P G z H → va_S (hp_A G) s.heap H locs → lv_has ls 3 [(0, .ref a0), (1, .int x1), (2, .int x2)] → W p l e (hp_rm 1 22 0 0) s m [.ref a0, .int x1, .int x2].toArray below meth c H locs 0 0 (MQ below (hp_Qi G rq zq) [.ref a0, .int x1, .int x2].toArray s 0 0 (hp_A G)) (F0 m 24 ls []) := by
    intro z H locs ls h hP hS hl
    unfold f_X7_repeat_B24 at h
    refine lv_bipush (v := (-2)) hx hb dX7_repeat_24 (by decide) ?_
    exact hw_iret X hP hS hr hlocks h dX7_repeat_26
  unfold f_X7_repeat at h
  refine lv_iload_n hx hb dX7_repeat_0 rfl (lv_at hl 1 rfl) ?_
  refine lv_iconst (v := 0) hx hb dX7_repeat_1 (by decide) ?_
  refine lv_sipush (v := 999) hx hb dX7_repeat_2 (by decide) ?_
  obtain ⟨⟨v1, z⟩, q, h⟩ := ho_bd h
  refine hw_ci hS (hp_runS (As := [.int x1, .int 0, .int 999]) (rest := []) X hP hS hl.1 kX7_81 m3_183 (c_X7_isIn l G fu x1 0 999 _ _ _ q) rfl (Nat.le_of_ble_eq_true rfl) ⟨⟨Nat.le_of_ble_eq_true rfl, Nat.le_of_ble_eq_true rfl⟩, Nat.le_of_ble_eq_true rfl, Nat.le_of_ble_eq_true rfl⟩ dX7_repeat_5) (fun H locs hP hS => ?_)
  refine lv_if_eq (tgt := 24) hx hb dX7_repeat_8 (by decide) (fun hc => ?_) (fun hc => ?_)
  · replace h := ho_ip hc h
    exact B24 z _ _ _ h hP hS (lv_sub hl [0, 1, 2] rfl)
  · replace h := ho_in hc h
    refine lv_iload_n hx hb dX7_repeat_11 rfl (lv_at hl 2 rfl) ?_
    refine lv_iload_n hx hb dX7_repeat_12 rfl (lv_at hl 1 rfl) ?_
    refine lv_iconst (v := 1) hx hb dX7_repeat_13 (by decide) ?_
    refine lv_iadd hx hb dX7_repeat_14 ?_
    refine lv_sipush (v := 999) hx hb dX7_repeat_15 (by decide) ?_
    obtain ⟨⟨v2, z⟩, q, h⟩ := ho_bd h
    refine hw_ci hS (hp_runS (As := [.int x2, .int (x1 + 1), .int 999]) (rest := []) X hP hS hl.1 kX7_81 m3_183 (c_X7_isIn l G fu x2 (x1 + 1) 999 _ _ _ q) rfl (Nat.le_of_ble_eq_true rfl) ⟨⟨Nat.le_of_ble_eq_true rfl, Nat.le_of_ble_eq_true rfl⟩, Nat.le_of_ble_eq_true rfl, Nat.le_of_ble_eq_true rfl⟩ dX7_repeat_18) (fun H locs hP hS => ?_)
    refine lv_if_ne (tgt := 27) hx hb dX7_repeat_21 (by decide) (fun hc => ?_) (fun hc => ?_)
    · replace h := ho_in hc h
      refine lv_aload_n hx hb dX7_repeat_27 rfl (lv_at hl 0 rfl) ?_
      obtain ⟨v3, q, h⟩ := ho_bd h
      refine hw_gi X hP LX7 fX7_69 rfl q dX7_repeat_28 ?_
      refine lv_iconst (v := 4) hx hb dX7_repeat_31 (by decide) ?_
      refine lv_icmp_ne (tgt := 38) hx hb dX7_repeat_32 (by decide) (fun hc => ?_) (fun hc => ?_)
      · replace h := ho_in hc h
        refine lv_aload_n hx hb dX7_repeat_38 rfl (lv_at hl 0 rfl) ?_
        obtain ⟨r4, q, h⟩ := ho_bd h
        refine hw_gr X hP LX7 fX7_32 rfl q dX7_repeat_39 ?_
        refine lv_aload_n hx hb dX7_repeat_42 rfl (lv_at hl 0 rfl) ?_
        obtain ⟨v5, q, h⟩ := ho_bd h
        refine hw_gi X hP LX7 fX7_69 rfl q dX7_repeat_43 ?_
        refine lv_iload_n hx hb dX7_repeat_46 rfl (lv_at hl 1 rfl) ?_
        obtain ⟨z, q, h⟩ := ho_bd h
        refine hw_si X hP hS q dX7_repeat_47 (fun H locs hP hS => ?_)
        refine lv_aload_n hx hb dX7_repeat_48 rfl (lv_at hl 0 rfl) ?_
        obtain ⟨r6, q, h⟩ := ho_bd h
        refine hw_gr X hP LX7 fX7_35 rfl q dX7_repeat_49 ?_
        refine lv_aload_n hx hb dX7_repeat_52 rfl (lv_at hl 0 rfl) ?_
        obtain ⟨v7, q, h⟩ := ho_bd h
        refine hw_gi X hP LX7 fX7_69 rfl q dX7_repeat_53 ?_
        refine lv_iload_n hx hb dX7_repeat_56 rfl (lv_at hl 2 rfl) ?_
        obtain ⟨z, q, h⟩ := ho_bd h
        refine hw_si X hP hS q dX7_repeat_57 (fun H locs hP hS => ?_)
        refine lv_aload_n hx hb dX7_repeat_58 rfl (lv_at hl 0 rfl) ?_
        refine lv_dup hx hb dX7_repeat_59 rfl ?_
        obtain ⟨v8, q, h⟩ := ho_bd h
        refine hw_gi X hP LX7 fX7_69 rfl q dX7_repeat_60 ?_
        refine lv_iconst (v := 1) hx hb dX7_repeat_63 (by decide) ?_
        refine lv_iadd hx hb dX7_repeat_64 ?_
        obtain ⟨z, q, h⟩ := ho_bd h
        refine hw_pi X hP hS LX7 fX7_69 rfl rfl rfl q dX7_repeat_65 (fun H locs hP hS => ?_)
        refine lv_aload_n hx hb dX7_repeat_68 rfl (lv_at hl 0 rfl) ?_
        obtain ⟨v9, q, h⟩ := ho_bd h
        refine hw_gi X hP LX7 fX7_69 rfl q dX7_repeat_69 ?_
        exact hw_iret X hP hS hr hlocks h dX7_repeat_72
      · replace h := ho_ip hc h
        refine lv_bipush (v := (-3)) hx hb dX7_repeat_35 (by decide) ?_
        exact hw_iret X hP hS hr hlocks h dX7_repeat_37
    · replace h := ho_ip hc h
      exact B24 z _ _ _ h hP hS (lv_sub hl [0, 1, 2] rfl)
def f_X7_isExcepted_B52 (fu : Nat) (a0 : Nat) (x1 : Int32) (x2 : Int32) (w3 : Int32) (z : hp_S) : Option (Int32 × hp_S) :=
  if vp_nar .boolean w3 = w3 then some (w3, z) else none
def f_X7_isExcepted_B45 (fu : Nat) (a0 : Nat) (x1 : Int32) (x2 : Int32) (ag : Int32 → Int32 → hp_S → Option (Int32 × hp_S)) (kk : Int32 → hp_S → Option (Int32 × hp_S)) (w4 : Int32) (s0 : Int32) (z : hp_S) : Option (Int32 × hp_S) :=
  (ho_id (w4 + 1)).bind fun v2 =>
  ag s0 v2 z
def f_X7_isExcepted_B40 (fu : Nat) (a0 : Nat) (x1 : Int32) (x2 : Int32) (ag : Int32 → Int32 → hp_S → Option (Int32 × hp_S)) (kk : Int32 → hp_S → Option (Int32 × hp_S)) (w4 : Int32) (z : hp_S) : Option (Int32 × hp_S) :=
  f_X7_isExcepted_B45 fu a0 x1 x2 ag kk w4 1 z
def f_X7_isExcepted_B44 (fu : Nat) (a0 : Nat) (x1 : Int32) (x2 : Int32) (ag : Int32 → Int32 → hp_S → Option (Int32 × hp_S)) (kk : Int32 → hp_S → Option (Int32 × hp_S)) (w4 : Int32) (z : hp_S) : Option (Int32 × hp_S) :=
  f_X7_isExcepted_B45 fu a0 x1 x2 ag kk w4 0 z
def f_X7_isExcepted_L5 (fu : Nat) (a0 : Nat) (x1 : Int32) (x2 : Int32) (kk : Int32 → hp_S → Option (Int32 × hp_S)) : Nat → Int32 → Int32 → hp_S → Option (Int32 × hp_S)
  | 0, _, _, _ => none
  | n + 1, w3, w4, z =>
    (ho_gi 7 a0 13 z).bind fun v1 =>
    if v1 ≤ w4 then (
      kk w3 z
    ) else (
      if w3 = 0 then (
        (ho_gr 7 a0 14 z).bind fun r3 =>
        (ho_li 1 r3 w4 z).bind fun v4 =>
        if v4 = x1 then (
          (ho_gr 7 a0 15 z).bind fun r5 =>
          (ho_li 1 r5 w4 z).bind fun v6 =>
          if v6 = x2 then (
            f_X7_isExcepted_B40 fu a0 x1 x2 (f_X7_isExcepted_L5 fu a0 x1 x2 kk n) kk w4 z
          ) else (
            f_X7_isExcepted_B44 fu a0 x1 x2 (f_X7_isExcepted_L5 fu a0 x1 x2 kk n) kk w4 z
          )
        ) else (
          f_X7_isExcepted_B44 fu a0 x1 x2 (f_X7_isExcepted_L5 fu a0 x1 x2 kk n) kk w4 z
        )
      ) else (
        f_X7_isExcepted_B40 fu a0 x1 x2 (f_X7_isExcepted_L5 fu a0 x1 x2 kk n) kk w4 z
      )
    )
def f_X7_isExcepted (fu : Nat) (a0 : Nat) (x1 : Int32) (x2 : Int32) (z : hp_S) : Option (Int32 × hp_S) :=
  f_X7_isExcepted_L5 fu a0 x1 x2 (f_X7_isExcepted_B52 fu a0 x1 x2) fu 0 0 z
set_option maxHeartbeats 4000000 in
set_option maxRecDepth 100000 in
theorem c_X7_isExcepted (l : Launch) (G : hp_G) (fu : Nat) (a0 : Nat) (x1 : Int32) (x2 : Int32) (z : hp_S) (rq : Int32) (zq : hp_S) (h : f_X7_isExcepted fu a0 x1 x2 z = some (rq, zq)) : hp_M l G yX7_isExcepted cX7_isExcepted 5 (some .boolean) 0 0 0 0 [.ref a0, .int x1, .int x2] z (hp_Qi G rq zq) := by
  refine hp_M.of (by decide) (Nat.le_of_ble_eq_true rfl) ?_
  intro p e s m below meth c X hr hlocks hnm hP hS ls hl
  have X : hp_C G cX7_isExcepted RX7 5 p s m c := X
  have hl : lv_has ls 5 [(0, .ref a0), (1, .int x1), (2, .int x2)] := hl
  have hx := X.1
  have hb := X.2.1
  have B52 : ∀ (w3 : Int32) (z : hp_S) (H : Heap) (locs : List Loc) (ls : Array Slot), f_X7_isExcepted_B52 fu a0 x1 x2 w3 z = some (rq, zq) → hp_P G z H → va_S (hp_A G) s.heap H locs → lv_has ls 5 [(0, .ref a0), (1, .int x1), (2, .int x2), (3, .int w3)] → W p l e (hp_rm 0 0 0 0) s m [.ref a0, .int x1, .int x2].toArray below meth c H locs 0 0 (MQ below (hp_Qi G rq zq) [.ref a0, .int x1, .int x2].toArray s 0 0 (hp_A G)) (F0 m 52 ls []) := by
    intro w3 z H locs ls h hP hS hl
    unfold f_X7_isExcepted_B52 at h
    refine lv_iload_n hx hb dX7_isExcepted_52 rfl (lv_at hl 3 rfl) ?_
    exact hw_zret X hP hS hr hlocks h dX7_isExcepted_53
  have L5 : ∀ (n5 : Nat) (w3 : Int32) (w4 : Int32) (z : hp_S) (H : Heap) (locs : List Loc) (ls : Array Slot), f_X7_isExcepted_L5 fu a0 x1 x2 (f_X7_isExcepted_B52 fu a0 x1 x2) n5 w3 w4 z = some (rq, zq) → hp_P G z H → va_S (hp_A G) s.heap H locs → lv_has ls 5 [(0, .ref a0), (1, .int x1), (2, .int x2), (3, .int w3), (4, .int w4)] → W p l e (hp_rm 0 0 0 0) s m [.ref a0, .int x1, .int x2].toArray below meth c H locs 0 0 (MQ below (hp_Qi G rq zq) [.ref a0, .int x1, .int x2].toArray s 0 0 (hp_A G)) (F0 m 5 ls []) := by
    intro n5
    induction n5 with
    | zero =>
      intro w3 w4 z H locs ls h
      exact nomatch (h : (none : Option (Int32 × hp_S)) = some (rq, zq))
    | succ n5 ih5 =>
      have B45 : ∀ (w4 : Int32) (s0 : Int32) (z : hp_S) (H : Heap) (locs : List Loc) (ls : Array Slot), f_X7_isExcepted_B45 fu a0 x1 x2 (f_X7_isExcepted_L5 fu a0 x1 x2 (f_X7_isExcepted_B52 fu a0 x1 x2) n5) (f_X7_isExcepted_B52 fu a0 x1 x2) w4 s0 z = some (rq, zq) → hp_P G z H → va_S (hp_A G) s.heap H locs → lv_has ls 5 [(0, .ref a0), (1, .int x1), (2, .int x2), (4, .int w4)] → W p l e (hp_rm 0 0 0 0) s m [.ref a0, .int x1, .int x2].toArray below meth c H locs 0 0 (MQ below (hp_Qi G rq zq) [.ref a0, .int x1, .int x2].toArray s 0 0 (hp_A G)) (F0 m 45 ls [.int s0]) := by
        intro w4 s0 z H locs ls h hP hS hl
        unfold f_X7_isExcepted_B45 at h
        refine lv_istore_n (lv' := [(3, .int s0), (0, .ref a0), (1, .int x1), (2, .int x2), (4, .int w4)]) hx hb dX7_isExcepted_45 rfl hl (by decide) rfl (fun ls hl => ?_)
        obtain ⟨v2, q, h⟩ := ho_bd h
        refine lv_iinc (v := v2) (lv' := [(4, .int v2), (3, .int s0), (0, .ref a0), (1, .int x1), (2, .int x2)]) hx hb dX7_isExcepted_46 hl (k := 4) rfl (Option.some.inj q) (by decide) rfl (fun ls hl => ?_)
        refine lv_goto (tgt := 5) hx hb dX7_isExcepted_49 (by decide) ?_
        exact ih5 s0 v2 z _ _ _ h hP hS (lv_sub hl [2, 3, 4, 1, 0] rfl)
      have B40 : ∀ (w4 : Int32) (z : hp_S) (H : Heap) (locs : List Loc) (ls : Array Slot), f_X7_isExcepted_B40 fu a0 x1 x2 (f_X7_isExcepted_L5 fu a0 x1 x2 (f_X7_isExcepted_B52 fu a0 x1 x2) n5) (f_X7_isExcepted_B52 fu a0 x1 x2) w4 z = some (rq, zq) → hp_P G z H → va_S (hp_A G) s.heap H locs → lv_has ls 5 [(0, .ref a0), (1, .int x1), (2, .int x2), (4, .int w4)] → W p l e (hp_rm 0 0 0 0) s m [.ref a0, .int x1, .int x2].toArray below meth c H locs 0 0 (MQ below (hp_Qi G rq zq) [.ref a0, .int x1, .int x2].toArray s 0 0 (hp_A G)) (F0 m 40 ls []) := by
        intro w4 z H locs ls h hP hS hl
        unfold f_X7_isExcepted_B40 at h
        refine lv_iconst (v := 1) hx hb dX7_isExcepted_40 (by decide) ?_
        refine lv_goto (tgt := 45) hx hb dX7_isExcepted_41 (by decide) ?_
        exact B45 w4 1 z _ _ _ h hP hS (lv_sub hl [0, 1, 2, 3] rfl)
      have B44 : ∀ (w4 : Int32) (z : hp_S) (H : Heap) (locs : List Loc) (ls : Array Slot), f_X7_isExcepted_B44 fu a0 x1 x2 (f_X7_isExcepted_L5 fu a0 x1 x2 (f_X7_isExcepted_B52 fu a0 x1 x2) n5) (f_X7_isExcepted_B52 fu a0 x1 x2) w4 z = some (rq, zq) → hp_P G z H → va_S (hp_A G) s.heap H locs → lv_has ls 5 [(0, .ref a0), (1, .int x1), (2, .int x2), (4, .int w4)] → W p l e (hp_rm 0 0 0 0) s m [.ref a0, .int x1, .int x2].toArray below meth c H locs 0 0 (MQ below (hp_Qi G rq zq) [.ref a0, .int x1, .int x2].toArray s 0 0 (hp_A G)) (F0 m 44 ls []) := by
        intro w4 z H locs ls h hP hS hl
        unfold f_X7_isExcepted_B44 at h
        refine lv_iconst (v := 0) hx hb dX7_isExcepted_44 (by decide) ?_
        exact B45 w4 0 z _ _ _ h hP hS (lv_sub hl [0, 1, 2, 3] rfl)
      intro w3 w4 z H locs ls h hP hS hl
      rw [f_X7_isExcepted_L5] at h
      refine lv_iload hx hb dX7_isExcepted_5 (lv_at hl 4 rfl) ?_
      refine lv_aload_n hx hb dX7_isExcepted_7 rfl (lv_at hl 0 rfl) ?_
      obtain ⟨v1, q, h⟩ := ho_bd h
      refine hw_gi X hP LX7 fX7_72 rfl q dX7_isExcepted_8 ?_
      refine lv_icmp_ge (tgt := 52) hx hb dX7_isExcepted_11 (by decide) (fun hc => ?_) (fun hc => ?_)
      · replace h := ho_ip hc h
        exact B52 w3 z _ _ _ h hP hS (lv_sub hl [0, 1, 2, 3] rfl)
      · replace h := ho_in hc h
        refine lv_iload_n hx hb dX7_isExcepted_14 rfl (lv_at hl 3 rfl) ?_
        refine lv_if_ne (tgt := 40) hx hb dX7_isExcepted_15 (by decide) (fun hc => ?_) (fun hc => ?_)
        · replace h := ho_in hc h
          exact B40 w4 z _ _ _ h hP hS (lv_sub hl [0, 1, 2, 4] rfl)
        · replace h := ho_ip hc h
          refine lv_aload_n hx hb dX7_isExcepted_18 rfl (lv_at hl 0 rfl) ?_
          obtain ⟨r3, q, h⟩ := ho_bd h
          refine hw_gr X hP LX7 fX7_38 rfl q dX7_isExcepted_19 ?_
          refine lv_iload hx hb dX7_isExcepted_22 (lv_at hl 4 rfl) ?_
          obtain ⟨v4, q, h⟩ := ho_bd h
          refine hw_li X hP q dX7_isExcepted_24 ?_
          refine lv_iload_n hx hb dX7_isExcepted_25 rfl (lv_at hl 1 rfl) ?_
          refine lv_icmp_ne (tgt := 44) hx hb dX7_isExcepted_26 (by decide) (fun hc => ?_) (fun hc => ?_)
          · replace h := ho_in hc h
            exact B44 w4 z _ _ _ h hP hS (lv_sub hl [0, 1, 2, 4] rfl)
          · replace h := ho_ip hc h
            refine lv_aload_n hx hb dX7_isExcepted_29 rfl (lv_at hl 0 rfl) ?_
            obtain ⟨r5, q, h⟩ := ho_bd h
            refine hw_gr X hP LX7 fX7_41 rfl q dX7_isExcepted_30 ?_
            refine lv_iload hx hb dX7_isExcepted_33 (lv_at hl 4 rfl) ?_
            obtain ⟨v6, q, h⟩ := ho_bd h
            refine hw_li X hP q dX7_isExcepted_35 ?_
            refine lv_iload_n hx hb dX7_isExcepted_36 rfl (lv_at hl 2 rfl) ?_
            refine lv_icmp_ne (tgt := 44) hx hb dX7_isExcepted_37 (by decide) (fun hc => ?_) (fun hc => ?_)
            · replace h := ho_in hc h
              exact B44 w4 z _ _ _ h hP hS (lv_sub hl [0, 1, 2, 4] rfl)
            · replace h := ho_ip hc h
              exact B40 w4 z _ _ _ h hP hS (lv_sub hl [0, 1, 2, 4] rfl)
  unfold f_X7_isExcepted at h
  refine lv_iconst (v := 0) hx hb dX7_isExcepted_0 (by decide) ?_
  refine lv_istore_n (lv' := [(3, .int 0), (0, .ref a0), (1, .int x1), (2, .int x2)]) hx hb dX7_isExcepted_1 rfl hl (by decide) rfl (fun ls hl => ?_)
  refine lv_iconst (v := 0) hx hb dX7_isExcepted_2 (by decide) ?_
  refine lv_istore (lv' := [(4, .int 0), (3, .int 0), (0, .ref a0), (1, .int x1), (2, .int x2)]) hx hb dX7_isExcepted_3 hl (by decide) rfl (fun ls hl => ?_)
  exact L5 fu 0 0 z _ _ _ h hP hS (lv_sub hl [2, 3, 4, 1, 0] rfl)
def f_X7_except_B21 (fu : Nat) (a0 : Nat) (x1 : Int32) (x2 : Int32) (z : hp_S) : Option (Int32 × hp_S) :=
  some ((-2), z)
def f_X7_except (fu : Nat) (a0 : Nat) (x1 : Int32) (x2 : Int32) (z : hp_S) : Option (Int32 × hp_S) :=
  (f_X7_isIn fu x1 0 13 z).bind fun ⟨v1, z⟩ =>
  if v1 = 0 then (
    f_X7_except_B21 fu a0 x1 x2  z
  ) else (
    (f_X7_isIn fu x2 0 999 z).bind fun ⟨v2, z⟩ =>
    if v2 = 0 then (
      f_X7_except_B21 fu a0 x1 x2  z
    ) else (
      (ho_is 7 a0 z).bind fun _ =>
      (f_X7_isExcepted fu a0 x1 x2 z).bind fun ⟨v3, z⟩ =>
      if v3 = 0 then (
        (ho_gi 7 a0 13 z).bind fun v4 =>
        if v4 = 20 then (
          some ((-3), z)
        ) else (
          (ho_gr 7 a0 14 z).bind fun r5 =>
          (ho_gi 7 a0 13 z).bind fun v6 =>
          (ho_si r5 v6 x1 z).bind fun z =>
          (ho_gr 7 a0 15 z).bind fun r7 =>
          (ho_gi 7 a0 13 z).bind fun v8 =>
          (ho_si r7 v8 x2 z).bind fun z =>
          (ho_gi 7 a0 13 z).bind fun v9 =>
          (ho_pi 7 a0 13 (v9 + 1) z).bind fun z =>
          (ho_gi 7 a0 13 z).bind fun v10 =>
          some (v10, z)
        )
      ) else (
        some ((-1), z)
      )
    )
  )
set_option maxHeartbeats 4000000 in
set_option maxRecDepth 100000 in
theorem c_X7_except (l : Launch) (G : hp_G) (fu : Nat) (a0 : Nat) (x1 : Int32) (x2 : Int32) (z : hp_S) (rq : Int32) (zq : hp_S) (h : f_X7_except fu a0 x1 x2 z = some (rq, zq)) : hp_M l G yX7_except cX7_except 3 (some .int) 1 24 0 0 [.ref a0, .int x1, .int x2] z (hp_Qi G rq zq) := by
  refine hp_M.of (by decide) (Nat.le_of_ble_eq_true rfl) ?_
  intro p e s m below meth c X hr hlocks hnm hP hS ls hl
  have X : hp_C G cX7_except RX7 3 p s m c := X
  have hl : lv_has ls 3 [(0, .ref a0), (1, .int x1), (2, .int x2)] := hl
  have hx := X.1
  have hb := X.2.1
  have B21 : ∀ (z : hp_S) (H : Heap) (locs : List Loc) (ls : Array Slot), f_X7_except_B21 fu a0 x1 x2 z = some (rq, zq) → hp_P G z H → va_S (hp_A G) s.heap H locs → lv_has ls 3 [(0, .ref a0), (1, .int x1), (2, .int x2)] → W p l e (hp_rm 1 24 0 0) s m [.ref a0, .int x1, .int x2].toArray below meth c H locs 0 0 (MQ below (hp_Qi G rq zq) [.ref a0, .int x1, .int x2].toArray s 0 0 (hp_A G)) (F0 m 21 ls []) := by
    intro z H locs ls h hP hS hl
    unfold f_X7_except_B21 at h
    refine lv_bipush (v := (-2)) hx hb dX7_except_21 (by decide) ?_
    exact hw_iret X hP hS hr hlocks h dX7_except_23
  unfold f_X7_except at h
  refine lv_iload_n hx hb dX7_except_0 rfl (lv_at hl 1 rfl) ?_
  refine lv_iconst (v := 0) hx hb dX7_except_1 (by decide) ?_
  refine lv_bipush (v := 13) hx hb dX7_except_2 (by decide) ?_
  obtain ⟨⟨v1, z⟩, q, h⟩ := ho_bd h
  refine hw_ci hS (hp_runS (As := [.int x1, .int 0, .int 13]) (rest := []) X hP hS hl.1 kX7_81 m3_183 (c_X7_isIn l G fu x1 0 13 _ _ _ q) rfl (Nat.le_of_ble_eq_true rfl) ⟨⟨Nat.le_of_ble_eq_true rfl, Nat.le_of_ble_eq_true rfl⟩, Nat.le_of_ble_eq_true rfl, Nat.le_of_ble_eq_true rfl⟩ dX7_except_4) (fun H locs hP hS => ?_)
  refine lv_if_eq (tgt := 21) hx hb dX7_except_7 (by decide) (fun hc => ?_) (fun hc => ?_)
  · replace h := ho_ip hc h
    exact B21 z _ _ _ h hP hS (lv_sub hl [0, 1, 2] rfl)
  · replace h := ho_in hc h
    refine lv_iload_n hx hb dX7_except_10 rfl (lv_at hl 2 rfl) ?_
    refine lv_iconst (v := 0) hx hb dX7_except_11 (by decide) ?_
    refine lv_sipush (v := 999) hx hb dX7_except_12 (by decide) ?_
    obtain ⟨⟨v2, z⟩, q, h⟩ := ho_bd h
    refine hw_ci hS (hp_runS (As := [.int x2, .int 0, .int 999]) (rest := []) X hP hS hl.1 kX7_81 m3_183 (c_X7_isIn l G fu x2 0 999 _ _ _ q) rfl (Nat.le_of_ble_eq_true rfl) ⟨⟨Nat.le_of_ble_eq_true rfl, Nat.le_of_ble_eq_true rfl⟩, Nat.le_of_ble_eq_true rfl, Nat.le_of_ble_eq_true rfl⟩ dX7_except_15) (fun H locs hP hS => ?_)
    refine lv_if_ne (tgt := 24) hx hb dX7_except_18 (by decide) (fun hc => ?_) (fun hc => ?_)
    · replace h := ho_in hc h
      refine lv_aload_n hx hb dX7_except_24 rfl (lv_at hl 0 rfl) ?_
      refine lv_iload_n hx hb dX7_except_25 rfl (lv_at hl 1 rfl) ?_
      refine lv_iload_n hx hb dX7_except_26 rfl (lv_at hl 2 rfl) ?_
      obtain ⟨_, hs, h⟩ := ho_bd h
      obtain ⟨⟨v3, z⟩, q, h⟩ := ho_bd h
      refine hw_ci hS (hp_runV (As := [.int x1, .int x2]) (rest := []) X hP hS hl.1 LX7 (ho_is_s hs) kX7_106 ⟨m3_238, mp_25⟩ (c_X7_isExcepted l G fu a0 x1 x2 _ _ _ q) rfl (Nat.le_of_ble_eq_true rfl) ⟨⟨Nat.le_of_ble_eq_true rfl, Nat.le_of_ble_eq_true rfl⟩, Nat.le_of_ble_eq_true rfl, Nat.le_of_ble_eq_true rfl⟩ dX7_except_27) (fun H locs hP hS => ?_)
      refine lv_if_eq (tgt := 35) hx hb dX7_except_30 (by decide) (fun hc => ?_) (fun hc => ?_)
      · replace h := ho_ip hc h
        refine lv_aload_n hx hb dX7_except_35 rfl (lv_at hl 0 rfl) ?_
        obtain ⟨v4, q, h⟩ := ho_bd h
        refine hw_gi X hP LX7 fX7_72 rfl q dX7_except_36 ?_
        refine lv_bipush (v := 20) hx hb dX7_except_39 (by decide) ?_
        refine lv_icmp_ne (tgt := 47) hx hb dX7_except_41 (by decide) (fun hc => ?_) (fun hc => ?_)
        · replace h := ho_in hc h
          refine lv_aload_n hx hb dX7_except_47 rfl (lv_at hl 0 rfl) ?_
          obtain ⟨r5, q, h⟩ := ho_bd h
          refine hw_gr X hP LX7 fX7_38 rfl q dX7_except_48 ?_
          refine lv_aload_n hx hb dX7_except_51 rfl (lv_at hl 0 rfl) ?_
          obtain ⟨v6, q, h⟩ := ho_bd h
          refine hw_gi X hP LX7 fX7_72 rfl q dX7_except_52 ?_
          refine lv_iload_n hx hb dX7_except_55 rfl (lv_at hl 1 rfl) ?_
          obtain ⟨z, q, h⟩ := ho_bd h
          refine hw_si X hP hS q dX7_except_56 (fun H locs hP hS => ?_)
          refine lv_aload_n hx hb dX7_except_57 rfl (lv_at hl 0 rfl) ?_
          obtain ⟨r7, q, h⟩ := ho_bd h
          refine hw_gr X hP LX7 fX7_41 rfl q dX7_except_58 ?_
          refine lv_aload_n hx hb dX7_except_61 rfl (lv_at hl 0 rfl) ?_
          obtain ⟨v8, q, h⟩ := ho_bd h
          refine hw_gi X hP LX7 fX7_72 rfl q dX7_except_62 ?_
          refine lv_iload_n hx hb dX7_except_65 rfl (lv_at hl 2 rfl) ?_
          obtain ⟨z, q, h⟩ := ho_bd h
          refine hw_si X hP hS q dX7_except_66 (fun H locs hP hS => ?_)
          refine lv_aload_n hx hb dX7_except_67 rfl (lv_at hl 0 rfl) ?_
          refine lv_dup hx hb dX7_except_68 rfl ?_
          obtain ⟨v9, q, h⟩ := ho_bd h
          refine hw_gi X hP LX7 fX7_72 rfl q dX7_except_69 ?_
          refine lv_iconst (v := 1) hx hb dX7_except_72 (by decide) ?_
          refine lv_iadd hx hb dX7_except_73 ?_
          obtain ⟨z, q, h⟩ := ho_bd h
          refine hw_pi X hP hS LX7 fX7_72 rfl rfl rfl q dX7_except_74 (fun H locs hP hS => ?_)
          refine lv_aload_n hx hb dX7_except_77 rfl (lv_at hl 0 rfl) ?_
          obtain ⟨v10, q, h⟩ := ho_bd h
          refine hw_gi X hP LX7 fX7_72 rfl q dX7_except_78 ?_
          exact hw_iret X hP hS hr hlocks h dX7_except_81
        · replace h := ho_ip hc h
          refine lv_bipush (v := (-3)) hx hb dX7_except_44 (by decide) ?_
          exact hw_iret X hP hS hr hlocks h dX7_except_46
      · replace h := ho_in hc h
        refine lv_iconst (v := (-1)) hx hb dX7_except_33 (by decide) ?_
        exact hw_iret X hP hS hr hlocks h dX7_except_34
    · replace h := ho_ip hc h
      exact B21 z _ _ _ h hP hS (lv_sub hl [0, 1, 2] rfl)
def f_X7_isAbout_B83 (fu : Nat) (a0 : Nat) (x1 : Int32) (x2 : Int32) (x3 : Int32) (s0 : Int32) (z : hp_S) : Option (Int32 × hp_S) :=
  if vp_nar .boolean s0 = s0 then some (s0, z) else none
def f_X7_isAbout_B82 (fu : Nat) (a0 : Nat) (x1 : Int32) (x2 : Int32) (x3 : Int32) (z : hp_S) : Option (Int32 × hp_S) :=
  f_X7_isAbout_B83 fu a0 x1 x2 x3 0 z
def f_X7_isAbout_B149 (fu : Nat) (a0 : Nat) (x1 : Int32) (x2 : Int32) (x3 : Int32) (s0 : Int32) (z : hp_S) : Option (Int32 × hp_S) :=
  if vp_nar .boolean s0 = s0 then some (s0, z) else none
def f_X7_isAbout_B96 (fu : Nat) (a0 : Nat) (x1 : Int32) (x2 : Int32) (x3 : Int32) (s0 : Int32) (z : hp_S) : Option (Int32 × hp_S) :=
  if vp_nar .boolean s0 = s0 then some (s0, z) else none
def f_X7_isAbout_B107 (fu : Nat) (a0 : Nat) (x1 : Int32) (x2 : Int32) (x3 : Int32) (s0 : Int32) (z : hp_S) : Option (Int32 × hp_S) :=
  if vp_nar .boolean s0 = s0 then some (s0, z) else none
def f_X7_isAbout_B122 (fu : Nat) (a0 : Nat) (x1 : Int32) (x2 : Int32) (x3 : Int32) (s0 : Int32) (z : hp_S) : Option (Int32 × hp_S) :=
  if vp_nar .boolean s0 = s0 then some (s0, z) else none
def f_X7_isAbout_B121 (fu : Nat) (a0 : Nat) (x1 : Int32) (x2 : Int32) (x3 : Int32) (z : hp_S) : Option (Int32 × hp_S) :=
  f_X7_isAbout_B122 fu a0 x1 x2 x3 0 z
def f_X7_isAbout_B138 (fu : Nat) (a0 : Nat) (x1 : Int32) (x2 : Int32) (x3 : Int32) (s0 : Int32) (z : hp_S) : Option (Int32 × hp_S) :=
  if vp_nar .boolean s0 = s0 then some (s0, z) else none
def f_X7_isAbout_B137 (fu : Nat) (a0 : Nat) (x1 : Int32) (x2 : Int32) (x3 : Int32) (z : hp_S) : Option (Int32 × hp_S) :=
  f_X7_isAbout_B138 fu a0 x1 x2 x3 0 z
def f_X7_isAbout (fu : Nat) (a0 : Nat) (x1 : Int32) (x2 : Int32) (x3 : Int32) (z : hp_S) : Option (Int32 × hp_S) :=
  if x1 = 2 then (
    if x2 = 0 then (
      (ho_gi 7 a0 0 z).bind fun v1 =>
      if x3 = (v1 - 1) then (
        f_X7_isAbout_B83 fu a0 x1 x2 x3 1 z
      ) else (
        f_X7_isAbout_B82 fu a0 x1 x2 x3  z
      )
    ) else (
      f_X7_isAbout_B82 fu a0 x1 x2 x3  z
    )
  ) else (
  if x1 = 3 then (
    if x3 ≤ x2 then (
      f_X7_isAbout_B149 fu a0 x1 x2 x3 0 z
    ) else (
      f_X7_isAbout_B149 fu a0 x1 x2 x3 1 z
    )
  ) else (
  if x1 = 4 then (
    if x3 = (x2 + 1) then (
      f_X7_isAbout_B96 fu a0 x1 x2 x3 1 z
    ) else (
      f_X7_isAbout_B96 fu a0 x1 x2 x3 0 z
    )
  ) else (
  if x1 = 5 then (
    if x3 = (x2 + 1) then (
      f_X7_isAbout_B96 fu a0 x1 x2 x3 1 z
    ) else (
      f_X7_isAbout_B96 fu a0 x1 x2 x3 0 z
    )
  ) else (
  if x1 = 6 then (
    if x3 = (-1) then (
      f_X7_isAbout_B107 fu a0 x1 x2 x3 1 z
    ) else (
      f_X7_isAbout_B107 fu a0 x1 x2 x3 0 z
    )
  ) else (
  if x1 = 7 then (
    if x3 = (-1) then (
      f_X7_isAbout_B107 fu a0 x1 x2 x3 1 z
    ) else (
      f_X7_isAbout_B107 fu a0 x1 x2 x3 0 z
    )
  ) else (
  if x1 = 8 then (
    if x3 = (-1) then (
      f_X7_isAbout_B107 fu a0 x1 x2 x3 1 z
    ) else (
      f_X7_isAbout_B107 fu a0 x1 x2 x3 0 z
    )
  ) else (
  if x1 = 9 then (
    if x3 ≤ x2 then (
      f_X7_isAbout_B149 fu a0 x1 x2 x3 0 z
    ) else (
      f_X7_isAbout_B149 fu a0 x1 x2 x3 1 z
    )
  ) else (
  if x1 = 10 then (
    if x3 = (-1) then (
      if x2 ≤ 0 then (
        f_X7_isAbout_B121 fu a0 x1 x2 x3  z
      ) else (
        f_X7_isAbout_B122 fu a0 x1 x2 x3 1 z
      )
    ) else (
      f_X7_isAbout_B121 fu a0 x1 x2 x3  z
    )
  ) else (
  if x1 = 11 then (
    if x3 = (-1) then (
      f_X7_isAbout_B137 fu a0 x1 x2 x3  z
    ) else (
      if x3 = x2 then (
        f_X7_isAbout_B137 fu a0 x1 x2 x3  z
      ) else (
        f_X7_isAbout_B138 fu a0 x1 x2 x3 1 z
      )
    )
  ) else (
  if x1 = 12 then (
    if x3 ≤ x2 then (
      f_X7_isAbout_B149 fu a0 x1 x2 x3 0 z
    ) else (
      f_X7_isAbout_B149 fu a0 x1 x2 x3 1 z
    )
  ) else (
  if x1 = 13 then (
    if x3 = (x2 + 1) then (
      f_X7_isAbout_B96 fu a0 x1 x2 x3 1 z
    ) else (
      f_X7_isAbout_B96 fu a0 x1 x2 x3 0 z
    )
  ) else (
    if x3 ≤ x2 then (
      f_X7_isAbout_B149 fu a0 x1 x2 x3 0 z
    ) else (
      f_X7_isAbout_B149 fu a0 x1 x2 x3 1 z
    )
  ))))))))))))
set_option maxHeartbeats 4000000 in
set_option maxRecDepth 100000 in
theorem c_X7_isAbout (l : Launch) (G : hp_G) (fu : Nat) (a0 : Nat) (x1 : Int32) (x2 : Int32) (x3 : Int32) (z : hp_S) (rq : Int32) (zq : hp_S) (h : f_X7_isAbout fu a0 x1 x2 x3 z = some (rq, zq)) : hp_M l G yX7_isAbout cX7_isAbout 4 (some .boolean) 0 0 0 0 [.ref a0, .int x1, .int x2, .int x3] z (hp_Qi G rq zq) := by
  refine hp_M.of (by decide) (Nat.le_of_ble_eq_true rfl) ?_
  intro p e s m below meth c X hr hlocks hnm hP hS ls hl
  have X : hp_C G cX7_isAbout RX7 4 p s m c := X
  have hl : lv_has ls 4 [(0, .ref a0), (1, .int x1), (2, .int x2), (3, .int x3)] := hl
  have hx := X.1
  have hb := X.2.1
  have B83 : ∀ (s0 : Int32) (z : hp_S) (H : Heap) (locs : List Loc) (ls : Array Slot), f_X7_isAbout_B83 fu a0 x1 x2 x3 s0 z = some (rq, zq) → hp_P G z H → va_S (hp_A G) s.heap H locs → lv_has ls 4 [(0, .ref a0), (1, .int x1), (2, .int x2), (3, .int x3)] → W p l e (hp_rm 0 0 0 0) s m [.ref a0, .int x1, .int x2, .int x3].toArray below meth c H locs 0 0 (MQ below (hp_Qi G rq zq) [.ref a0, .int x1, .int x2, .int x3].toArray s 0 0 (hp_A G)) (F0 m 83 ls [.int s0]) := by
    intro s0 z H locs ls h hP hS hl
    unfold f_X7_isAbout_B83 at h
    exact hw_zret X hP hS hr hlocks h dX7_isAbout_83
  have B82 : ∀ (z : hp_S) (H : Heap) (locs : List Loc) (ls : Array Slot), f_X7_isAbout_B82 fu a0 x1 x2 x3 z = some (rq, zq) → hp_P G z H → va_S (hp_A G) s.heap H locs → lv_has ls 4 [(0, .ref a0), (1, .int x1), (2, .int x2), (3, .int x3)] → W p l e (hp_rm 0 0 0 0) s m [.ref a0, .int x1, .int x2, .int x3].toArray below meth c H locs 0 0 (MQ below (hp_Qi G rq zq) [.ref a0, .int x1, .int x2, .int x3].toArray s 0 0 (hp_A G)) (F0 m 82 ls []) := by
    intro z H locs ls h hP hS hl
    unfold f_X7_isAbout_B82 at h
    refine lv_iconst (v := 0) hx hb dX7_isAbout_82 (by decide) ?_
    exact B83 0 z _ _ _ h hP hS (lv_sub hl [0, 1, 2, 3] rfl)
  have B149 : ∀ (s0 : Int32) (z : hp_S) (H : Heap) (locs : List Loc) (ls : Array Slot), f_X7_isAbout_B149 fu a0 x1 x2 x3 s0 z = some (rq, zq) → hp_P G z H → va_S (hp_A G) s.heap H locs → lv_has ls 4 [(0, .ref a0), (1, .int x1), (2, .int x2), (3, .int x3)] → W p l e (hp_rm 0 0 0 0) s m [.ref a0, .int x1, .int x2, .int x3].toArray below meth c H locs 0 0 (MQ below (hp_Qi G rq zq) [.ref a0, .int x1, .int x2, .int x3].toArray s 0 0 (hp_A G)) (F0 m 149 ls [.int s0]) := by
    intro s0 z H locs ls h hP hS hl
    unfold f_X7_isAbout_B149 at h
    exact hw_zret X hP hS hr hlocks h dX7_isAbout_149
  have B96 : ∀ (s0 : Int32) (z : hp_S) (H : Heap) (locs : List Loc) (ls : Array Slot), f_X7_isAbout_B96 fu a0 x1 x2 x3 s0 z = some (rq, zq) → hp_P G z H → va_S (hp_A G) s.heap H locs → lv_has ls 4 [(0, .ref a0), (1, .int x1), (2, .int x2), (3, .int x3)] → W p l e (hp_rm 0 0 0 0) s m [.ref a0, .int x1, .int x2, .int x3].toArray below meth c H locs 0 0 (MQ below (hp_Qi G rq zq) [.ref a0, .int x1, .int x2, .int x3].toArray s 0 0 (hp_A G)) (F0 m 96 ls [.int s0]) := by
    intro s0 z H locs ls h hP hS hl
    unfold f_X7_isAbout_B96 at h
    exact hw_zret X hP hS hr hlocks h dX7_isAbout_96
  have B107 : ∀ (s0 : Int32) (z : hp_S) (H : Heap) (locs : List Loc) (ls : Array Slot), f_X7_isAbout_B107 fu a0 x1 x2 x3 s0 z = some (rq, zq) → hp_P G z H → va_S (hp_A G) s.heap H locs → lv_has ls 4 [(0, .ref a0), (1, .int x1), (2, .int x2), (3, .int x3)] → W p l e (hp_rm 0 0 0 0) s m [.ref a0, .int x1, .int x2, .int x3].toArray below meth c H locs 0 0 (MQ below (hp_Qi G rq zq) [.ref a0, .int x1, .int x2, .int x3].toArray s 0 0 (hp_A G)) (F0 m 107 ls [.int s0]) := by
    intro s0 z H locs ls h hP hS hl
    unfold f_X7_isAbout_B107 at h
    exact hw_zret X hP hS hr hlocks h dX7_isAbout_107
  have B122 : ∀ (s0 : Int32) (z : hp_S) (H : Heap) (locs : List Loc) (ls : Array Slot), f_X7_isAbout_B122 fu a0 x1 x2 x3 s0 z = some (rq, zq) → hp_P G z H → va_S (hp_A G) s.heap H locs → lv_has ls 4 [(0, .ref a0), (1, .int x1), (2, .int x2), (3, .int x3)] → W p l e (hp_rm 0 0 0 0) s m [.ref a0, .int x1, .int x2, .int x3].toArray below meth c H locs 0 0 (MQ below (hp_Qi G rq zq) [.ref a0, .int x1, .int x2, .int x3].toArray s 0 0 (hp_A G)) (F0 m 122 ls [.int s0]) := by
    intro s0 z H locs ls h hP hS hl
    unfold f_X7_isAbout_B122 at h
    exact hw_zret X hP hS hr hlocks h dX7_isAbout_122
  have B121 : ∀ (z : hp_S) (H : Heap) (locs : List Loc) (ls : Array Slot), f_X7_isAbout_B121 fu a0 x1 x2 x3 z = some (rq, zq) → hp_P G z H → va_S (hp_A G) s.heap H locs → lv_has ls 4 [(0, .ref a0), (1, .int x1), (2, .int x2), (3, .int x3)] → W p l e (hp_rm 0 0 0 0) s m [.ref a0, .int x1, .int x2, .int x3].toArray below meth c H locs 0 0 (MQ below (hp_Qi G rq zq) [.ref a0, .int x1, .int x2, .int x3].toArray s 0 0 (hp_A G)) (F0 m 121 ls []) := by
    intro z H locs ls h hP hS hl
    unfold f_X7_isAbout_B121 at h
    refine lv_iconst (v := 0) hx hb dX7_isAbout_121 (by decide) ?_
    exact B122 0 z _ _ _ h hP hS (lv_sub hl [0, 1, 2, 3] rfl)
  have B138 : ∀ (s0 : Int32) (z : hp_S) (H : Heap) (locs : List Loc) (ls : Array Slot), f_X7_isAbout_B138 fu a0 x1 x2 x3 s0 z = some (rq, zq) → hp_P G z H → va_S (hp_A G) s.heap H locs → lv_has ls 4 [(0, .ref a0), (1, .int x1), (2, .int x2), (3, .int x3)] → W p l e (hp_rm 0 0 0 0) s m [.ref a0, .int x1, .int x2, .int x3].toArray below meth c H locs 0 0 (MQ below (hp_Qi G rq zq) [.ref a0, .int x1, .int x2, .int x3].toArray s 0 0 (hp_A G)) (F0 m 138 ls [.int s0]) := by
    intro s0 z H locs ls h hP hS hl
    unfold f_X7_isAbout_B138 at h
    exact hw_zret X hP hS hr hlocks h dX7_isAbout_138
  have B137 : ∀ (z : hp_S) (H : Heap) (locs : List Loc) (ls : Array Slot), f_X7_isAbout_B137 fu a0 x1 x2 x3 z = some (rq, zq) → hp_P G z H → va_S (hp_A G) s.heap H locs → lv_has ls 4 [(0, .ref a0), (1, .int x1), (2, .int x2), (3, .int x3)] → W p l e (hp_rm 0 0 0 0) s m [.ref a0, .int x1, .int x2, .int x3].toArray below meth c H locs 0 0 (MQ below (hp_Qi G rq zq) [.ref a0, .int x1, .int x2, .int x3].toArray s 0 0 (hp_A G)) (F0 m 137 ls []) := by
    intro z H locs ls h hP hS hl
    unfold f_X7_isAbout_B137 at h
    refine lv_iconst (v := 0) hx hb dX7_isAbout_137 (by decide) ?_
    exact B138 0 z _ _ _ h hP hS (lv_sub hl [0, 1, 2, 3] rfl)
  unfold f_X7_isAbout at h
  refine lv_iload_n hx hb dX7_isAbout_0 rfl (lv_at hl 1 rfl) ?_
  by_cases hc2 : x1 = 2
  · replace h := ho_ip hc2 h
    refine lv_tableIn (tgt := 64) hx hb dX7_isAbout_1 (by rw [hc2]; decide) (by rw [hc2]; decide) (by rw [hc2]; rfl) (by decide) ?_
    refine lv_iload_n hx hb dX7_isAbout_64 rfl (lv_at hl 2 rfl) ?_
    refine lv_if_ne (tgt := 82) hx hb dX7_isAbout_65 (by decide) (fun hc => ?_) (fun hc => ?_)
    · replace h := ho_in hc h
      exact B82 z _ _ _ h hP hS (lv_sub hl [0, 1, 2, 3] rfl)
    · replace h := ho_ip hc h
      refine lv_iload_n hx hb dX7_isAbout_68 rfl (lv_at hl 3 rfl) ?_
      refine lv_aload_n hx hb dX7_isAbout_69 rfl (lv_at hl 0 rfl) ?_
      obtain ⟨v1, q, h⟩ := ho_bd h
      refine hw_gi X hP LX7 fX7_56 rfl q dX7_isAbout_70 ?_
      refine lv_iconst (v := 1) hx hb dX7_isAbout_73 (by decide) ?_
      refine lv_isub hx hb dX7_isAbout_74 ?_
      refine lv_icmp_ne (tgt := 82) hx hb dX7_isAbout_75 (by decide) (fun hc => ?_) (fun hc => ?_)
      · replace h := ho_in hc h
        exact B82 z _ _ _ h hP hS (lv_sub hl [0, 1, 2, 3] rfl)
      · replace h := ho_ip hc h
        refine lv_iconst (v := 1) hx hb dX7_isAbout_78 (by decide) ?_
        refine lv_goto (tgt := 83) hx hb dX7_isAbout_79 (by decide) ?_
        exact B83 1 z _ _ _ h hP hS (lv_sub hl [0, 1, 2, 3] rfl)
  replace h := ho_in hc2 h
  by_cases hc3 : x1 = 3
  · replace h := ho_ip hc3 h
    refine lv_tableIn (tgt := 139) hx hb dX7_isAbout_1 (by rw [hc3]; decide) (by rw [hc3]; decide) (by rw [hc3]; rfl) (by decide) ?_
    refine lv_iload_n hx hb dX7_isAbout_139 rfl (lv_at hl 3 rfl) ?_
    refine lv_iload_n hx hb dX7_isAbout_140 rfl (lv_at hl 2 rfl) ?_
    refine lv_icmp_le (tgt := 148) hx hb dX7_isAbout_141 (by decide) (fun hc => ?_) (fun hc => ?_)
    · replace h := ho_ip hc h
      refine lv_iconst (v := 0) hx hb dX7_isAbout_148 (by decide) ?_
      exact B149 0 z _ _ _ h hP hS (lv_sub hl [0, 1, 2, 3] rfl)
    · replace h := ho_in hc h
      refine lv_iconst (v := 1) hx hb dX7_isAbout_144 (by decide) ?_
      refine lv_goto (tgt := 149) hx hb dX7_isAbout_145 (by decide) ?_
      exact B149 1 z _ _ _ h hP hS (lv_sub hl [0, 1, 2, 3] rfl)
  replace h := ho_in hc3 h
  by_cases hc4 : x1 = 4
  · replace h := ho_ip hc4 h
    refine lv_tableIn (tgt := 84) hx hb dX7_isAbout_1 (by rw [hc4]; decide) (by rw [hc4]; decide) (by rw [hc4]; rfl) (by decide) ?_
    refine lv_iload_n hx hb dX7_isAbout_84 rfl (lv_at hl 3 rfl) ?_
    refine lv_iload_n hx hb dX7_isAbout_85 rfl (lv_at hl 2 rfl) ?_
    refine lv_iconst (v := 1) hx hb dX7_isAbout_86 (by decide) ?_
    refine lv_iadd hx hb dX7_isAbout_87 ?_
    refine lv_icmp_ne (tgt := 95) hx hb dX7_isAbout_88 (by decide) (fun hc => ?_) (fun hc => ?_)
    · replace h := ho_in hc h
      refine lv_iconst (v := 0) hx hb dX7_isAbout_95 (by decide) ?_
      exact B96 0 z _ _ _ h hP hS (lv_sub hl [0, 1, 2, 3] rfl)
    · replace h := ho_ip hc h
      refine lv_iconst (v := 1) hx hb dX7_isAbout_91 (by decide) ?_
      refine lv_goto (tgt := 96) hx hb dX7_isAbout_92 (by decide) ?_
      exact B96 1 z _ _ _ h hP hS (lv_sub hl [0, 1, 2, 3] rfl)
  replace h := ho_in hc4 h
  by_cases hc5 : x1 = 5
  · replace h := ho_ip hc5 h
    refine lv_tableIn (tgt := 84) hx hb dX7_isAbout_1 (by rw [hc5]; decide) (by rw [hc5]; decide) (by rw [hc5]; rfl) (by decide) ?_
    refine lv_iload_n hx hb dX7_isAbout_84 rfl (lv_at hl 3 rfl) ?_
    refine lv_iload_n hx hb dX7_isAbout_85 rfl (lv_at hl 2 rfl) ?_
    refine lv_iconst (v := 1) hx hb dX7_isAbout_86 (by decide) ?_
    refine lv_iadd hx hb dX7_isAbout_87 ?_
    refine lv_icmp_ne (tgt := 95) hx hb dX7_isAbout_88 (by decide) (fun hc => ?_) (fun hc => ?_)
    · replace h := ho_in hc h
      refine lv_iconst (v := 0) hx hb dX7_isAbout_95 (by decide) ?_
      exact B96 0 z _ _ _ h hP hS (lv_sub hl [0, 1, 2, 3] rfl)
    · replace h := ho_ip hc h
      refine lv_iconst (v := 1) hx hb dX7_isAbout_91 (by decide) ?_
      refine lv_goto (tgt := 96) hx hb dX7_isAbout_92 (by decide) ?_
      exact B96 1 z _ _ _ h hP hS (lv_sub hl [0, 1, 2, 3] rfl)
  replace h := ho_in hc5 h
  by_cases hc6 : x1 = 6
  · replace h := ho_ip hc6 h
    refine lv_tableIn (tgt := 97) hx hb dX7_isAbout_1 (by rw [hc6]; decide) (by rw [hc6]; decide) (by rw [hc6]; rfl) (by decide) ?_
    refine lv_iload_n hx hb dX7_isAbout_97 rfl (lv_at hl 3 rfl) ?_
    refine lv_iconst (v := (-1)) hx hb dX7_isAbout_98 (by decide) ?_
    refine lv_icmp_ne (tgt := 106) hx hb dX7_isAbout_99 (by decide) (fun hc => ?_) (fun hc => ?_)
    · replace h := ho_in hc h
      refine lv_iconst (v := 0) hx hb dX7_isAbout_106 (by decide) ?_
      exact B107 0 z _ _ _ h hP hS (lv_sub hl [0, 1, 2, 3] rfl)
    · replace h := ho_ip hc h
      refine lv_iconst (v := 1) hx hb dX7_isAbout_102 (by decide) ?_
      refine lv_goto (tgt := 107) hx hb dX7_isAbout_103 (by decide) ?_
      exact B107 1 z _ _ _ h hP hS (lv_sub hl [0, 1, 2, 3] rfl)
  replace h := ho_in hc6 h
  by_cases hc7 : x1 = 7
  · replace h := ho_ip hc7 h
    refine lv_tableIn (tgt := 97) hx hb dX7_isAbout_1 (by rw [hc7]; decide) (by rw [hc7]; decide) (by rw [hc7]; rfl) (by decide) ?_
    refine lv_iload_n hx hb dX7_isAbout_97 rfl (lv_at hl 3 rfl) ?_
    refine lv_iconst (v := (-1)) hx hb dX7_isAbout_98 (by decide) ?_
    refine lv_icmp_ne (tgt := 106) hx hb dX7_isAbout_99 (by decide) (fun hc => ?_) (fun hc => ?_)
    · replace h := ho_in hc h
      refine lv_iconst (v := 0) hx hb dX7_isAbout_106 (by decide) ?_
      exact B107 0 z _ _ _ h hP hS (lv_sub hl [0, 1, 2, 3] rfl)
    · replace h := ho_ip hc h
      refine lv_iconst (v := 1) hx hb dX7_isAbout_102 (by decide) ?_
      refine lv_goto (tgt := 107) hx hb dX7_isAbout_103 (by decide) ?_
      exact B107 1 z _ _ _ h hP hS (lv_sub hl [0, 1, 2, 3] rfl)
  replace h := ho_in hc7 h
  by_cases hc8 : x1 = 8
  · replace h := ho_ip hc8 h
    refine lv_tableIn (tgt := 97) hx hb dX7_isAbout_1 (by rw [hc8]; decide) (by rw [hc8]; decide) (by rw [hc8]; rfl) (by decide) ?_
    refine lv_iload_n hx hb dX7_isAbout_97 rfl (lv_at hl 3 rfl) ?_
    refine lv_iconst (v := (-1)) hx hb dX7_isAbout_98 (by decide) ?_
    refine lv_icmp_ne (tgt := 106) hx hb dX7_isAbout_99 (by decide) (fun hc => ?_) (fun hc => ?_)
    · replace h := ho_in hc h
      refine lv_iconst (v := 0) hx hb dX7_isAbout_106 (by decide) ?_
      exact B107 0 z _ _ _ h hP hS (lv_sub hl [0, 1, 2, 3] rfl)
    · replace h := ho_ip hc h
      refine lv_iconst (v := 1) hx hb dX7_isAbout_102 (by decide) ?_
      refine lv_goto (tgt := 107) hx hb dX7_isAbout_103 (by decide) ?_
      exact B107 1 z _ _ _ h hP hS (lv_sub hl [0, 1, 2, 3] rfl)
  replace h := ho_in hc8 h
  by_cases hc9 : x1 = 9
  · replace h := ho_ip hc9 h
    refine lv_tableIn (tgt := 139) hx hb dX7_isAbout_1 (by rw [hc9]; decide) (by rw [hc9]; decide) (by rw [hc9]; rfl) (by decide) ?_
    refine lv_iload_n hx hb dX7_isAbout_139 rfl (lv_at hl 3 rfl) ?_
    refine lv_iload_n hx hb dX7_isAbout_140 rfl (lv_at hl 2 rfl) ?_
    refine lv_icmp_le (tgt := 148) hx hb dX7_isAbout_141 (by decide) (fun hc => ?_) (fun hc => ?_)
    · replace h := ho_ip hc h
      refine lv_iconst (v := 0) hx hb dX7_isAbout_148 (by decide) ?_
      exact B149 0 z _ _ _ h hP hS (lv_sub hl [0, 1, 2, 3] rfl)
    · replace h := ho_in hc h
      refine lv_iconst (v := 1) hx hb dX7_isAbout_144 (by decide) ?_
      refine lv_goto (tgt := 149) hx hb dX7_isAbout_145 (by decide) ?_
      exact B149 1 z _ _ _ h hP hS (lv_sub hl [0, 1, 2, 3] rfl)
  replace h := ho_in hc9 h
  by_cases hc10 : x1 = 10
  · replace h := ho_ip hc10 h
    refine lv_tableIn (tgt := 108) hx hb dX7_isAbout_1 (by rw [hc10]; decide) (by rw [hc10]; decide) (by rw [hc10]; rfl) (by decide) ?_
    refine lv_iload_n hx hb dX7_isAbout_108 rfl (lv_at hl 3 rfl) ?_
    refine lv_iconst (v := (-1)) hx hb dX7_isAbout_109 (by decide) ?_
    refine lv_icmp_ne (tgt := 121) hx hb dX7_isAbout_110 (by decide) (fun hc => ?_) (fun hc => ?_)
    · replace h := ho_in hc h
      exact B121 z _ _ _ h hP hS (lv_sub hl [0, 1, 2, 3] rfl)
    · replace h := ho_ip hc h
      refine lv_iload_n hx hb dX7_isAbout_113 rfl (lv_at hl 2 rfl) ?_
      refine lv_if_le (tgt := 121) hx hb dX7_isAbout_114 (by decide) (fun hc => ?_) (fun hc => ?_)
      · replace h := ho_ip hc h
        exact B121 z _ _ _ h hP hS (lv_sub hl [0, 1, 2, 3] rfl)
      · replace h := ho_in hc h
        refine lv_iconst (v := 1) hx hb dX7_isAbout_117 (by decide) ?_
        refine lv_goto (tgt := 122) hx hb dX7_isAbout_118 (by decide) ?_
        exact B122 1 z _ _ _ h hP hS (lv_sub hl [0, 1, 2, 3] rfl)
  replace h := ho_in hc10 h
  by_cases hc11 : x1 = 11
  · replace h := ho_ip hc11 h
    refine lv_tableIn (tgt := 123) hx hb dX7_isAbout_1 (by rw [hc11]; decide) (by rw [hc11]; decide) (by rw [hc11]; rfl) (by decide) ?_
    refine lv_iload_n hx hb dX7_isAbout_123 rfl (lv_at hl 3 rfl) ?_
    refine lv_iconst (v := (-1)) hx hb dX7_isAbout_124 (by decide) ?_
    refine lv_icmp_eq (tgt := 137) hx hb dX7_isAbout_125 (by decide) (fun hc => ?_) (fun hc => ?_)
    · replace h := ho_ip hc h
      exact B137 z _ _ _ h hP hS (lv_sub hl [0, 1, 2, 3] rfl)
    · replace h := ho_in hc h
      refine lv_iload_n hx hb dX7_isAbout_128 rfl (lv_at hl 3 rfl) ?_
      refine lv_iload_n hx hb dX7_isAbout_129 rfl (lv_at hl 2 rfl) ?_
      refine lv_icmp_eq (tgt := 137) hx hb dX7_isAbout_130 (by decide) (fun hc => ?_) (fun hc => ?_)
      · replace h := ho_ip hc h
        exact B137 z _ _ _ h hP hS (lv_sub hl [0, 1, 2, 3] rfl)
      · replace h := ho_in hc h
        refine lv_iconst (v := 1) hx hb dX7_isAbout_133 (by decide) ?_
        refine lv_goto (tgt := 138) hx hb dX7_isAbout_134 (by decide) ?_
        exact B138 1 z _ _ _ h hP hS (lv_sub hl [0, 1, 2, 3] rfl)
  replace h := ho_in hc11 h
  by_cases hc12 : x1 = 12
  · replace h := ho_ip hc12 h
    refine lv_tableIn (tgt := 139) hx hb dX7_isAbout_1 (by rw [hc12]; decide) (by rw [hc12]; decide) (by rw [hc12]; rfl) (by decide) ?_
    refine lv_iload_n hx hb dX7_isAbout_139 rfl (lv_at hl 3 rfl) ?_
    refine lv_iload_n hx hb dX7_isAbout_140 rfl (lv_at hl 2 rfl) ?_
    refine lv_icmp_le (tgt := 148) hx hb dX7_isAbout_141 (by decide) (fun hc => ?_) (fun hc => ?_)
    · replace h := ho_ip hc h
      refine lv_iconst (v := 0) hx hb dX7_isAbout_148 (by decide) ?_
      exact B149 0 z _ _ _ h hP hS (lv_sub hl [0, 1, 2, 3] rfl)
    · replace h := ho_in hc h
      refine lv_iconst (v := 1) hx hb dX7_isAbout_144 (by decide) ?_
      refine lv_goto (tgt := 149) hx hb dX7_isAbout_145 (by decide) ?_
      exact B149 1 z _ _ _ h hP hS (lv_sub hl [0, 1, 2, 3] rfl)
  replace h := ho_in hc12 h
  by_cases hc13 : x1 = 13
  · replace h := ho_ip hc13 h
    refine lv_tableIn (tgt := 84) hx hb dX7_isAbout_1 (by rw [hc13]; decide) (by rw [hc13]; decide) (by rw [hc13]; rfl) (by decide) ?_
    refine lv_iload_n hx hb dX7_isAbout_84 rfl (lv_at hl 3 rfl) ?_
    refine lv_iload_n hx hb dX7_isAbout_85 rfl (lv_at hl 2 rfl) ?_
    refine lv_iconst (v := 1) hx hb dX7_isAbout_86 (by decide) ?_
    refine lv_iadd hx hb dX7_isAbout_87 ?_
    refine lv_icmp_ne (tgt := 95) hx hb dX7_isAbout_88 (by decide) (fun hc => ?_) (fun hc => ?_)
    · replace h := ho_in hc h
      refine lv_iconst (v := 0) hx hb dX7_isAbout_95 (by decide) ?_
      exact B96 0 z _ _ _ h hP hS (lv_sub hl [0, 1, 2, 3] rfl)
    · replace h := ho_ip hc h
      refine lv_iconst (v := 1) hx hb dX7_isAbout_91 (by decide) ?_
      refine lv_goto (tgt := 96) hx hb dX7_isAbout_92 (by decide) ?_
      exact B96 1 z _ _ _ h hP hS (lv_sub hl [0, 1, 2, 3] rfl)
  replace h := ho_in hc13 h
  refine lv_tableOut (tgt := 139) hx hb dX7_isAbout_1 (by have u0 := ho_ne (n := 2) 2 rfl hc2; have u1 := ho_ne (n := 3) 3 rfl hc3; have u2 := ho_ne (n := 4) 4 rfl hc4; have u3 := ho_ne (n := 5) 5 rfl hc5; have u4 := ho_ne (n := 6) 6 rfl hc6; have u5 := ho_ne (n := 7) 7 rfl hc7; have u6 := ho_ne (n := 8) 8 rfl hc8; have u7 := ho_ne (n := 9) 9 rfl hc9; have u8 := ho_ne (n := 10) 10 rfl hc10; have u9 := ho_ne (n := 11) 11 rfl hc11; have u10 := ho_ne (n := 12) 12 rfl hc12; have u11 := ho_ne (n := 13) 13 rfl hc13; omega) (by decide) ?_
  refine lv_iload_n hx hb dX7_isAbout_139 rfl (lv_at hl 3 rfl) ?_
  refine lv_iload_n hx hb dX7_isAbout_140 rfl (lv_at hl 2 rfl) ?_
  refine lv_icmp_le (tgt := 148) hx hb dX7_isAbout_141 (by decide) (fun hc => ?_) (fun hc => ?_)
  · replace h := ho_ip hc h
    refine lv_iconst (v := 0) hx hb dX7_isAbout_148 (by decide) ?_
    exact B149 0 z _ _ _ h hP hS (lv_sub hl [0, 1, 2, 3] rfl)
  · replace h := ho_in hc h
    refine lv_iconst (v := 1) hx hb dX7_isAbout_144 (by decide) ?_
    refine lv_goto (tgt := 149) hx hb dX7_isAbout_145 (by decide) ?_
    exact B149 1 z _ _ _ h hP hS (lv_sub hl [0, 1, 2, 3] rfl)
def f_X7_isOfMoments_B33 (fu : Nat) (x0 : Int32) (s0 : Int32) (z : hp_S) : Option (Int32 × hp_S) :=
  if vp_nar .boolean s0 = s0 then some (s0, z) else none
def f_X7_isOfMoments_B28 (fu : Nat) (x0 : Int32) (z : hp_S) : Option (Int32 × hp_S) :=
  f_X7_isOfMoments_B33 fu x0 1 z
def f_X7_isOfMoments (fu : Nat) (x0 : Int32) (z : hp_S) : Option (Int32 × hp_S) :=
  if x0 = 3 then (
    f_X7_isOfMoments_B28 fu x0  z
  ) else (
    if x0 = 5 then (
      f_X7_isOfMoments_B28 fu x0  z
    ) else (
      if x0 = 6 then (
        f_X7_isOfMoments_B28 fu x0  z
      ) else (
        if x0 = 9 then (
          f_X7_isOfMoments_B28 fu x0  z
        ) else (
          if x0 = 13 then (
            f_X7_isOfMoments_B28 fu x0  z
          ) else (
            f_X7_isOfMoments_B33 fu x0 0 z
          )
        )
      )
    )
  )
set_option maxHeartbeats 4000000 in
set_option maxRecDepth 100000 in
theorem c_X7_isOfMoments (l : Launch) (G : hp_G) (fu : Nat) (x0 : Int32) (z : hp_S) (rq : Int32) (zq : hp_S) (h : f_X7_isOfMoments fu x0 z = some (rq, zq)) : hp_M l G yX7_isOfMoments cX7_isOfMoments 1 (some .boolean) 0 0 0 0 [.int x0] z (hp_Qi G rq zq) := by
  refine hp_M.of (by decide) (Nat.le_of_ble_eq_true rfl) ?_
  intro p e s m below meth c X hr hlocks hnm hP hS ls hl
  have X : hp_C G cX7_isOfMoments RX7 1 p s m c := X
  have hl : lv_has ls 1 [(0, .int x0)] := hl
  have hx := X.1
  have hb := X.2.1
  have B33 : ∀ (s0 : Int32) (z : hp_S) (H : Heap) (locs : List Loc) (ls : Array Slot), f_X7_isOfMoments_B33 fu x0 s0 z = some (rq, zq) → hp_P G z H → va_S (hp_A G) s.heap H locs → lv_has ls 1 [(0, .int x0)] → W p l e (hp_rm 0 0 0 0) s m [.int x0].toArray below meth c H locs 0 0 (MQ below (hp_Qi G rq zq) [.int x0].toArray s 0 0 (hp_A G)) (F0 m 33 ls [.int s0]) := by
    intro s0 z H locs ls h hP hS hl
    unfold f_X7_isOfMoments_B33 at h
    exact hw_zret X hP hS hr hlocks h dX7_isOfMoments_33
  have B28 : ∀ (z : hp_S) (H : Heap) (locs : List Loc) (ls : Array Slot), f_X7_isOfMoments_B28 fu x0 z = some (rq, zq) → hp_P G z H → va_S (hp_A G) s.heap H locs → lv_has ls 1 [(0, .int x0)] → W p l e (hp_rm 0 0 0 0) s m [.int x0].toArray below meth c H locs 0 0 (MQ below (hp_Qi G rq zq) [.int x0].toArray s 0 0 (hp_A G)) (F0 m 28 ls []) := by
    intro z H locs ls h hP hS hl
    unfold f_X7_isOfMoments_B28 at h
    refine lv_iconst (v := 1) hx hb dX7_isOfMoments_28 (by decide) ?_
    refine lv_goto (tgt := 33) hx hb dX7_isOfMoments_29 (by decide) ?_
    exact B33 1 z _ _ _ h hP hS (lv_sub hl [0] rfl)
  unfold f_X7_isOfMoments at h
  refine lv_iload_n hx hb dX7_isOfMoments_0 rfl (lv_at hl 0 rfl) ?_
  refine lv_iconst (v := 3) hx hb dX7_isOfMoments_1 (by decide) ?_
  refine lv_icmp_eq (tgt := 28) hx hb dX7_isOfMoments_2 (by decide) (fun hc => ?_) (fun hc => ?_)
  · replace h := ho_ip hc h
    exact B28 z _ _ _ h hP hS (lv_sub hl [0] rfl)
  · replace h := ho_in hc h
    refine lv_iload_n hx hb dX7_isOfMoments_5 rfl (lv_at hl 0 rfl) ?_
    refine lv_iconst (v := 5) hx hb dX7_isOfMoments_6 (by decide) ?_
    refine lv_icmp_eq (tgt := 28) hx hb dX7_isOfMoments_7 (by decide) (fun hc => ?_) (fun hc => ?_)
    · replace h := ho_ip hc h
      exact B28 z _ _ _ h hP hS (lv_sub hl [0] rfl)
    · replace h := ho_in hc h
      refine lv_iload_n hx hb dX7_isOfMoments_10 rfl (lv_at hl 0 rfl) ?_
      refine lv_bipush (v := 6) hx hb dX7_isOfMoments_11 (by decide) ?_
      refine lv_icmp_eq (tgt := 28) hx hb dX7_isOfMoments_13 (by decide) (fun hc => ?_) (fun hc => ?_)
      · replace h := ho_ip hc h
        exact B28 z _ _ _ h hP hS (lv_sub hl [0] rfl)
      · replace h := ho_in hc h
        refine lv_iload_n hx hb dX7_isOfMoments_16 rfl (lv_at hl 0 rfl) ?_
        refine lv_bipush (v := 9) hx hb dX7_isOfMoments_17 (by decide) ?_
        refine lv_icmp_eq (tgt := 28) hx hb dX7_isOfMoments_19 (by decide) (fun hc => ?_) (fun hc => ?_)
        · replace h := ho_ip hc h
          exact B28 z _ _ _ h hP hS (lv_sub hl [0] rfl)
        · replace h := ho_in hc h
          refine lv_iload_n hx hb dX7_isOfMoments_22 rfl (lv_at hl 0 rfl) ?_
          refine lv_bipush (v := 13) hx hb dX7_isOfMoments_23 (by decide) ?_
          refine lv_icmp_ne (tgt := 32) hx hb dX7_isOfMoments_25 (by decide) (fun hc => ?_) (fun hc => ?_)
          · replace h := ho_in hc h
            refine lv_iconst (v := 0) hx hb dX7_isOfMoments_32 (by decide) ?_
            exact B33 0 z _ _ _ h hP hS (lv_sub hl [0] rfl)
          · replace h := ho_ip hc h
            exact B28 z _ _ _ h hP hS (lv_sub hl [0] rfl)
def f_X7_at (fu : Nat) (a0 : Nat) (x1 : Int32) (x2 : Int32) (z : hp_S) : Option (Int32 × hp_S) :=
  (ho_gr 7 a0 18 z).bind fun r1 =>
  (ho_li 1 r1 ((120 * x1) + x2) z).bind fun v2 =>
  some (v2, z)
set_option maxHeartbeats 4000000 in
set_option maxRecDepth 100000 in
theorem c_X7_at (l : Launch) (G : hp_G) (fu : Nat) (a0 : Nat) (x1 : Int32) (x2 : Int32) (z : hp_S) (rq : Int32) (zq : hp_S) (h : f_X7_at fu a0 x1 x2 z = some (rq, zq)) : hp_M l G yX7_at cX7_at 3 (some .int) 0 0 0 0 [.ref a0, .int x1, .int x2] z (hp_Qi G rq zq) := by
  refine hp_M.of (by decide) (Nat.le_of_ble_eq_true rfl) ?_
  intro p e s m below meth c X hr hlocks hnm hP hS ls hl
  have X : hp_C G cX7_at RX7 3 p s m c := X
  have hl : lv_has ls 3 [(0, .ref a0), (1, .int x1), (2, .int x2)] := hl
  have hx := X.1
  have hb := X.2.1
  unfold f_X7_at at h
  refine lv_aload_n hx hb dX7_at_0 rfl (lv_at hl 0 rfl) ?_
  obtain ⟨r1, q, h⟩ := ho_bd h
  refine hw_gr X hP LX7 fX7_47 rfl q dX7_at_1 ?_
  refine lv_bipush (v := 120) hx hb dX7_at_4 (by decide) ?_
  refine lv_iload_n hx hb dX7_at_6 rfl (lv_at hl 1 rfl) ?_
  refine lv_imul hx hb dX7_at_7 ?_
  refine lv_iload_n hx hb dX7_at_8 rfl (lv_at hl 2 rfl) ?_
  refine lv_iadd hx hb dX7_at_9 ?_
  obtain ⟨v2, q, h⟩ := ho_bd h
  refine hw_li X hP q dX7_at_10 ?_
  exact hw_iret X hP hS hr hlocks h dX7_at_11
def f_X7_betweenHeights (fu : Nat) (a0 : Nat) (x1 : Int32) (x2 : Int32) (x3 : Int32) (z : hp_S) : Option (Int32 × hp_S) :=
  (ho_is 7 a0 z).bind fun _ =>
  (f_X7_at fu a0 x2 x3 z).bind fun ⟨v1, z⟩ =>
  (ho_is 7 a0 z).bind fun _ =>
  (f_X7_heightOf fu a0 v1 z).bind fun ⟨v2, z⟩ =>
  (ho_is 7 a0 z).bind fun _ =>
  (f_X7_at fu a0 x1 x3 z).bind fun ⟨v3, z⟩ =>
  (ho_is 7 a0 z).bind fun _ =>
  (f_X7_heightOf fu a0 v3 z).bind fun ⟨v4, z⟩ =>
  some ((v2 - v4), z)
set_option maxHeartbeats 4000000 in
set_option maxRecDepth 100000 in
theorem c_X7_betweenHeights (l : Launch) (G : hp_G) (fu : Nat) (a0 : Nat) (x1 : Int32) (x2 : Int32) (x3 : Int32) (z : hp_S) (rq : Int32) (zq : hp_S) (h : f_X7_betweenHeights fu a0 x1 x2 x3 z = some (rq, zq)) : hp_M l G yX7_betweenHeights cX7_betweenHeights 4 (some .int) 2 41 0 0 [.ref a0, .int x1, .int x2, .int x3] z (hp_Qi G rq zq) := by
  refine hp_M.of (by decide) (Nat.le_of_ble_eq_true rfl) ?_
  intro p e s m below meth c X hr hlocks hnm hP hS ls hl
  have X : hp_C G cX7_betweenHeights RX7 4 p s m c := X
  have hl : lv_has ls 4 [(0, .ref a0), (1, .int x1), (2, .int x2), (3, .int x3)] := hl
  have hx := X.1
  have hb := X.2.1
  unfold f_X7_betweenHeights at h
  refine lv_aload_n hx hb dX7_betweenHeights_0 rfl (lv_at hl 0 rfl) ?_
  refine lv_aload_n hx hb dX7_betweenHeights_1 rfl (lv_at hl 0 rfl) ?_
  refine lv_iload_n hx hb dX7_betweenHeights_2 rfl (lv_at hl 2 rfl) ?_
  refine lv_iload_n hx hb dX7_betweenHeights_3 rfl (lv_at hl 3 rfl) ?_
  obtain ⟨_, hs, h⟩ := ho_bd h
  obtain ⟨⟨v1, z⟩, q, h⟩ := ho_bd h
  refine hw_ci hS (hp_runV (As := [.int x2, .int x3]) (rest := [.ref a0]) X hP hS hl.1 LX7 (ho_is_s hs) kX7_110 ⟨m4_21, mp_29⟩ (c_X7_at l G fu a0 x2 x3 _ _ _ q) rfl (Nat.le_of_ble_eq_true rfl) ⟨⟨Nat.le_of_ble_eq_true rfl, Nat.le_of_ble_eq_true rfl⟩, Nat.le_of_ble_eq_true rfl, Nat.le_of_ble_eq_true rfl⟩ dX7_betweenHeights_4) (fun H locs hP hS => ?_)
  obtain ⟨_, hs, h⟩ := ho_bd h
  obtain ⟨⟨v2, z⟩, q, h⟩ := ho_bd h
  refine hw_ci hS (hp_runV (As := [.int v1]) (rest := []) X hP hS hl.1 LX7 (ho_is_s hs) kX7_97 ⟨m3_215, mp_23⟩ (c_X7_heightOf l G fu a0 v1 _ _ _ q) rfl (Nat.le_of_ble_eq_true rfl) ⟨⟨Nat.le_of_ble_eq_true rfl, Nat.le_of_ble_eq_true rfl⟩, Nat.le_of_ble_eq_true rfl, Nat.le_of_ble_eq_true rfl⟩ dX7_betweenHeights_7) (fun H locs hP hS => ?_)
  refine lv_aload_n hx hb dX7_betweenHeights_10 rfl (lv_at hl 0 rfl) ?_
  refine lv_aload_n hx hb dX7_betweenHeights_11 rfl (lv_at hl 0 rfl) ?_
  refine lv_iload_n hx hb dX7_betweenHeights_12 rfl (lv_at hl 1 rfl) ?_
  refine lv_iload_n hx hb dX7_betweenHeights_13 rfl (lv_at hl 3 rfl) ?_
  obtain ⟨_, hs, h⟩ := ho_bd h
  obtain ⟨⟨v3, z⟩, q, h⟩ := ho_bd h
  refine hw_ci hS (hp_runV (As := [.int x1, .int x3]) (rest := [.ref a0, .int v2]) X hP hS hl.1 LX7 (ho_is_s hs) kX7_110 ⟨m4_21, mp_29⟩ (c_X7_at l G fu a0 x1 x3 _ _ _ q) rfl (Nat.le_of_ble_eq_true rfl) ⟨⟨Nat.le_of_ble_eq_true rfl, Nat.le_of_ble_eq_true rfl⟩, Nat.le_of_ble_eq_true rfl, Nat.le_of_ble_eq_true rfl⟩ dX7_betweenHeights_14) (fun H locs hP hS => ?_)
  obtain ⟨_, hs, h⟩ := ho_bd h
  obtain ⟨⟨v4, z⟩, q, h⟩ := ho_bd h
  refine hw_ci hS (hp_runV (As := [.int v3]) (rest := [.int v2]) X hP hS hl.1 LX7 (ho_is_s hs) kX7_97 ⟨m3_215, mp_23⟩ (c_X7_heightOf l G fu a0 v3 _ _ _ q) rfl (Nat.le_of_ble_eq_true rfl) ⟨⟨Nat.le_of_ble_eq_true rfl, Nat.le_of_ble_eq_true rfl⟩, Nat.le_of_ble_eq_true rfl, Nat.le_of_ble_eq_true rfl⟩ dX7_betweenHeights_17) (fun H locs hP hS => ?_)
  refine lv_isub hx hb dX7_betweenHeights_20 ?_
  exact hw_iret X hP hS hr hlocks h dX7_betweenHeights_21
def f_X7_modulo_B17 (fu : Nat) (x0 : Int32) (x1 : Int32) (x2 : Int32) (s0 : Int32) (z : hp_S) : Option (Int32 × hp_S) :=
  some (s0, z)
def f_X7_modulo (fu : Nat) (x0 : Int32) (x1 : Int32) (x2 : Int32) (z : hp_S) : Option (Int32 × hp_S) :=
  (ho_rm (x0 + x2) x1).bind fun v1 =>
  if 0 ≤ v1 then (
    f_X7_modulo_B17 fu x0 x1 x2 v1 z
  ) else (
    f_X7_modulo_B17 fu x0 x1 x2 (v1 + x1) z
  )
set_option maxHeartbeats 4000000 in
set_option maxRecDepth 100000 in
theorem c_X7_modulo (l : Launch) (G : hp_G) (fu : Nat) (x0 : Int32) (x1 : Int32) (x2 : Int32) (z : hp_S) (rq : Int32) (zq : hp_S) (h : f_X7_modulo fu x0 x1 x2 z = some (rq, zq)) : hp_M l G yX7_modulo cX7_modulo 4 (some .int) 0 0 0 0 [.int x0, .int x1, .int x2] z (hp_Qi G rq zq) := by
  refine hp_M.of (by decide) (Nat.le_of_ble_eq_true rfl) ?_
  intro p e s m below meth c X hr hlocks hnm hP hS ls hl
  have X : hp_C G cX7_modulo RX7 4 p s m c := X
  have hl : lv_has ls 4 [(0, .int x0), (1, .int x1), (2, .int x2)] := hl
  have hx := X.1
  have hb := X.2.1
  have B17 : ∀ (s0 : Int32) (z : hp_S) (H : Heap) (locs : List Loc) (ls : Array Slot), f_X7_modulo_B17 fu x0 x1 x2 s0 z = some (rq, zq) → hp_P G z H → va_S (hp_A G) s.heap H locs → lv_has ls 4 [(0, .int x0), (1, .int x1), (2, .int x2)] → W p l e (hp_rm 0 0 0 0) s m [.int x0, .int x1, .int x2].toArray below meth c H locs 0 0 (MQ below (hp_Qi G rq zq) [.int x0, .int x1, .int x2].toArray s 0 0 (hp_A G)) (F0 m 17 ls [.int s0]) := by
    intro s0 z H locs ls h hP hS hl
    unfold f_X7_modulo_B17 at h
    exact hw_iret X hP hS hr hlocks h dX7_modulo_17
  unfold f_X7_modulo at h
  refine lv_iload_n hx hb dX7_modulo_0 rfl (lv_at hl 0 rfl) ?_
  refine lv_iload_n hx hb dX7_modulo_1 rfl (lv_at hl 2 rfl) ?_
  refine lv_iadd hx hb dX7_modulo_2 ?_
  refine lv_iload_n hx hb dX7_modulo_3 rfl (lv_at hl 1 rfl) ?_
  obtain ⟨v1, q, h⟩ := ho_bd h
  refine hw_rm X q dX7_modulo_4 ?_
  refine lv_istore_n (lv' := [(3, .int v1), (0, .int x0), (1, .int x1), (2, .int x2)]) hx hb dX7_modulo_5 rfl hl (by decide) rfl (fun ls hl => ?_)
  refine lv_iload_n hx hb dX7_modulo_6 rfl (lv_at hl 0 rfl) ?_
  refine lv_if_ge (tgt := 16) hx hb dX7_modulo_7 (by decide) (fun hc => ?_) (fun hc => ?_)
  · replace h := ho_ip hc h
    refine lv_iload_n hx hb dX7_modulo_16 rfl (lv_at hl 0 rfl) ?_
    exact B17 v1 z _ _ _ h hP hS (lv_sub hl [1, 2, 3] rfl)
  · replace h := ho_in hc h
    refine lv_iload_n hx hb dX7_modulo_10 rfl (lv_at hl 0 rfl) ?_
    refine lv_iload_n hx hb dX7_modulo_11 rfl (lv_at hl 2 rfl) ?_
    refine lv_iadd hx hb dX7_modulo_12 ?_
    refine lv_goto (tgt := 17) hx hb dX7_modulo_13 (by decide) ?_
    exact B17 (v1 + x1) z _ _ _ h hP hS (lv_sub hl [1, 2, 3] rfl)
def f_X7_isLeading_B30 (fu : Nat) (a0 : Nat) (x1 : Int32) (z : hp_S) : Option (Int32 × hp_S) :=
  if vp_nar .boolean 0 = 0 then some (0, z) else none
def f_X7_isLeading_B109 (fu : Nat) (a0 : Nat) (x1 : Int32) (s0 : Int32) (z : hp_S) : Option (Int32 × hp_S) :=
  if vp_nar .boolean s0 = s0 then some (s0, z) else none
def f_X7_isLeading_B93 (fu : Nat) (a0 : Nat) (x1 : Int32) (s0 : Int32) (z : hp_S) : Option (Int32 × hp_S) :=
  (ho_gr 7 a0 4 z).bind fun r12 =>
  (ho_li 1 r12 x1 z).bind fun v13 =>
  if v13 = s0 then (
    f_X7_isLeading_B109 fu a0 x1 1 z
  ) else (
    f_X7_isLeading_B109 fu a0 x1 0 z
  )
def f_X7_isLeading_B92 (fu : Nat) (a0 : Nat) (x1 : Int32) (z : hp_S) : Option (Int32 × hp_S) :=
  f_X7_isLeading_B93 fu a0 x1 0 z
def f_X7_isLeading_B69 (fu : Nat) (a0 : Nat) (x1 : Int32) (w2 : Int32) (z : hp_S) : Option (Int32 × hp_S) :=
  (ho_gi 7 a0 8 z).bind fun v11 =>
  if 0 ≤ v11 then (
    f_X7_isLeading_B92 fu a0 x1  z
  ) else (
    (ho_gi 7 a0 8 z).bind fun v14 =>
    if (-v14) ≤ (6 - w2) then (
      f_X7_isLeading_B92 fu a0 x1  z
    ) else (
      f_X7_isLeading_B93 fu a0 x1 (-1) z
    )
  )
def f_X7_isLeading (fu : Nat) (a0 : Nat) (x1 : Int32) (z : hp_S) : Option (Int32 × hp_S) :=
  if x1 = (-1) then (
    f_X7_isLeading_B30 fu a0 x1  z
  ) else (
    (ho_gr 7 a0 3 z).bind fun r1 =>
    (ho_li 1 r1 x1 z).bind fun v2 =>
    (ho_rm v2 7).bind fun v3 =>
    (ho_gi 7 a0 8 z).bind fun v4 =>
    (f_X7_modulo fu (4 * v4) 7 6 z).bind fun ⟨v5, z⟩ =>
    if v3 = v5 then (
      (ho_gr 7 a0 3 z).bind fun r6 =>
      (ho_li 1 r6 x1 z).bind fun v7 =>
      (ho_rm v7 7).bind fun v8 =>
      (f_X7_modulo fu (2 * v8) 7 1 z).bind fun ⟨v9, z⟩ =>
      (ho_gi 7 a0 8 z).bind fun v10 =>
      if v10 ≤ 0 then (
        f_X7_isLeading_B69 fu a0 x1 v9 z
      ) else (
        (ho_gi 7 a0 8 z).bind fun v15 =>
        if v15 ≤ v9 then (
          f_X7_isLeading_B69 fu a0 x1 v9 z
        ) else (
          f_X7_isLeading_B93 fu a0 x1 1 z
        )
      )
    ) else (
      f_X7_isLeading_B30 fu a0 x1  z
    )
  )
set_option maxHeartbeats 4000000 in
set_option maxRecDepth 100000 in
theorem c_X7_isLeading (l : Launch) (G : hp_G) (fu : Nat) (a0 : Nat) (x1 : Int32) (z : hp_S) (rq : Int32) (zq : hp_S) (h : f_X7_isLeading fu a0 x1 z = some (rq, zq)) : hp_M l G yX7_isLeading cX7_isLeading 4 (some .boolean) 1 23 0 0 [.ref a0, .int x1] z (hp_Qi G rq zq) := by
  refine hp_M.of (by decide) (Nat.le_of_ble_eq_true rfl) ?_
  intro p e s m below meth c X hr hlocks hnm hP hS ls hl
  have X : hp_C G cX7_isLeading RX7 4 p s m c := X
  have hl : lv_has ls 4 [(0, .ref a0), (1, .int x1)] := hl
  have hx := X.1
  have hb := X.2.1
  have B30 : ∀ (z : hp_S) (H : Heap) (locs : List Loc) (ls : Array Slot), f_X7_isLeading_B30 fu a0 x1 z = some (rq, zq) → hp_P G z H → va_S (hp_A G) s.heap H locs → lv_has ls 4 [(0, .ref a0), (1, .int x1)] → W p l e (hp_rm 1 23 0 0) s m [.ref a0, .int x1].toArray below meth c H locs 0 0 (MQ below (hp_Qi G rq zq) [.ref a0, .int x1].toArray s 0 0 (hp_A G)) (F0 m 30 ls []) := by
    intro z H locs ls h hP hS hl
    unfold f_X7_isLeading_B30 at h
    refine lv_iconst (v := 0) hx hb dX7_isLeading_30 (by decide) ?_
    exact hw_zret X hP hS hr hlocks h dX7_isLeading_31
  have B109 : ∀ (s0 : Int32) (z : hp_S) (H : Heap) (locs : List Loc) (ls : Array Slot), f_X7_isLeading_B109 fu a0 x1 s0 z = some (rq, zq) → hp_P G z H → va_S (hp_A G) s.heap H locs → lv_has ls 4 [(0, .ref a0), (1, .int x1)] → W p l e (hp_rm 1 23 0 0) s m [.ref a0, .int x1].toArray below meth c H locs 0 0 (MQ below (hp_Qi G rq zq) [.ref a0, .int x1].toArray s 0 0 (hp_A G)) (F0 m 109 ls [.int s0]) := by
    intro s0 z H locs ls h hP hS hl
    unfold f_X7_isLeading_B109 at h
    exact hw_zret X hP hS hr hlocks h dX7_isLeading_109
  have B93 : ∀ (s0 : Int32) (z : hp_S) (H : Heap) (locs : List Loc) (ls : Array Slot), f_X7_isLeading_B93 fu a0 x1 s0 z = some (rq, zq) → hp_P G z H → va_S (hp_A G) s.heap H locs → lv_has ls 4 [(0, .ref a0), (1, .int x1)] → W p l e (hp_rm 1 23 0 0) s m [.ref a0, .int x1].toArray below meth c H locs 0 0 (MQ below (hp_Qi G rq zq) [.ref a0, .int x1].toArray s 0 0 (hp_A G)) (F0 m 93 ls [.int s0]) := by
    intro s0 z H locs ls h hP hS hl
    unfold f_X7_isLeading_B93 at h
    refine lv_istore_n (lv' := [(3, .int s0), (0, .ref a0), (1, .int x1)]) hx hb dX7_isLeading_93 rfl hl (by decide) rfl (fun ls hl => ?_)
    refine lv_aload_n hx hb dX7_isLeading_94 rfl (lv_at hl 1 rfl) ?_
    obtain ⟨r12, q, h⟩ := ho_bd h
    refine hw_gr X hP LX7 fX7_19 rfl q dX7_isLeading_95 ?_
    refine lv_iload_n hx hb dX7_isLeading_98 rfl (lv_at hl 2 rfl) ?_
    obtain ⟨v13, q, h⟩ := ho_bd h
    refine hw_li X hP q dX7_isLeading_99 ?_
    refine lv_iload_n hx hb dX7_isLeading_100 rfl (lv_at hl 0 rfl) ?_
    refine lv_icmp_ne (tgt := 108) hx hb dX7_isLeading_101 (by decide) (fun hc => ?_) (fun hc => ?_)
    · replace h := ho_in hc h
      refine lv_iconst (v := 0) hx hb dX7_isLeading_108 (by decide) ?_
      exact B109 0 z _ _ _ h hP hS (lv_sub hl [1, 2] rfl)
    · replace h := ho_ip hc h
      refine lv_iconst (v := 1) hx hb dX7_isLeading_104 (by decide) ?_
      refine lv_goto (tgt := 109) hx hb dX7_isLeading_105 (by decide) ?_
      exact B109 1 z _ _ _ h hP hS (lv_sub hl [1, 2] rfl)
  have B92 : ∀ (z : hp_S) (H : Heap) (locs : List Loc) (ls : Array Slot), f_X7_isLeading_B92 fu a0 x1 z = some (rq, zq) → hp_P G z H → va_S (hp_A G) s.heap H locs → lv_has ls 4 [(0, .ref a0), (1, .int x1)] → W p l e (hp_rm 1 23 0 0) s m [.ref a0, .int x1].toArray below meth c H locs 0 0 (MQ below (hp_Qi G rq zq) [.ref a0, .int x1].toArray s 0 0 (hp_A G)) (F0 m 92 ls []) := by
    intro z H locs ls h hP hS hl
    unfold f_X7_isLeading_B92 at h
    refine lv_iconst (v := 0) hx hb dX7_isLeading_92 (by decide) ?_
    exact B93 0 z _ _ _ h hP hS (lv_sub hl [0, 1] rfl)
  have B69 : ∀ (w2 : Int32) (z : hp_S) (H : Heap) (locs : List Loc) (ls : Array Slot), f_X7_isLeading_B69 fu a0 x1 w2 z = some (rq, zq) → hp_P G z H → va_S (hp_A G) s.heap H locs → lv_has ls 4 [(0, .ref a0), (1, .int x1), (2, .int w2)] → W p l e (hp_rm 1 23 0 0) s m [.ref a0, .int x1].toArray below meth c H locs 0 0 (MQ below (hp_Qi G rq zq) [.ref a0, .int x1].toArray s 0 0 (hp_A G)) (F0 m 69 ls []) := by
    intro w2 z H locs ls h hP hS hl
    unfold f_X7_isLeading_B69 at h
    refine lv_aload_n hx hb dX7_isLeading_69 rfl (lv_at hl 0 rfl) ?_
    obtain ⟨v11, q, h⟩ := ho_bd h
    refine hw_gi X hP LX7 fX7_63 rfl q dX7_isLeading_70 ?_
    refine lv_if_ge (tgt := 92) hx hb dX7_isLeading_73 (by decide) (fun hc => ?_) (fun hc => ?_)
    · replace h := ho_ip hc h
      exact B92 z _ _ _ h hP hS (lv_sub hl [0, 1] rfl)
    · replace h := ho_in hc h
      refine lv_bipush (v := 6) hx hb dX7_isLeading_76 (by decide) ?_
      refine lv_iload_n hx hb dX7_isLeading_78 rfl (lv_at hl 2 rfl) ?_
      refine lv_isub hx hb dX7_isLeading_79 ?_
      refine lv_aload_n hx hb dX7_isLeading_80 rfl (lv_at hl 0 rfl) ?_
      obtain ⟨v14, q, h⟩ := ho_bd h
      refine hw_gi X hP LX7 fX7_63 rfl q dX7_isLeading_81 ?_
      refine lv_ineg hx hb dX7_isLeading_84 ?_
      refine lv_icmp_ge (tgt := 92) hx hb dX7_isLeading_85 (by decide) (fun hc => ?_) (fun hc => ?_)
      · replace h := ho_ip hc h
        exact B92 z _ _ _ h hP hS (lv_sub hl [0, 1] rfl)
      · replace h := ho_in hc h
        refine lv_iconst (v := (-1)) hx hb dX7_isLeading_88 (by decide) ?_
        refine lv_goto (tgt := 93) hx hb dX7_isLeading_89 (by decide) ?_
        exact B93 (-1) z _ _ _ h hP hS (lv_sub hl [0, 1] rfl)
  unfold f_X7_isLeading at h
  refine lv_iload_n hx hb dX7_isLeading_0 rfl (lv_at hl 1 rfl) ?_
  refine lv_iconst (v := (-1)) hx hb dX7_isLeading_1 (by decide) ?_
  refine lv_icmp_eq (tgt := 30) hx hb dX7_isLeading_2 (by decide) (fun hc => ?_) (fun hc => ?_)
  · replace h := ho_ip hc h
    exact B30 z _ _ _ h hP hS (lv_sub hl [0, 1] rfl)
  · replace h := ho_in hc h
    refine lv_aload_n hx hb dX7_isLeading_5 rfl (lv_at hl 0 rfl) ?_
    obtain ⟨r1, q, h⟩ := ho_bd h
    refine hw_gr X hP LX7 fX7_16 rfl q dX7_isLeading_6 ?_
    refine lv_iload_n hx hb dX7_isLeading_9 rfl (lv_at hl 1 rfl) ?_
    obtain ⟨v2, q, h⟩ := ho_bd h
    refine hw_li X hP q dX7_isLeading_10 ?_
    refine lv_bipush (v := 7) hx hb dX7_isLeading_11 (by decide) ?_
    obtain ⟨v3, q, h⟩ := ho_bd h
    refine hw_rm X q dX7_isLeading_13 ?_
    refine lv_iconst (v := 4) hx hb dX7_isLeading_14 (by decide) ?_
    refine lv_aload_n hx hb dX7_isLeading_15 rfl (lv_at hl 0 rfl) ?_
    obtain ⟨v4, q, h⟩ := ho_bd h
    refine hw_gi X hP LX7 fX7_63 rfl q dX7_isLeading_16 ?_
    refine lv_imul hx hb dX7_isLeading_19 ?_
    refine lv_bipush (v := 7) hx hb dX7_isLeading_20 (by decide) ?_
    refine lv_bipush (v := 6) hx hb dX7_isLeading_22 (by decide) ?_
    obtain ⟨⟨v5, z⟩, q, h⟩ := ho_bd h
    refine hw_ci hS (hp_runS (As := [.int (4 * v4), .int 7, .int 6]) (rest := [.int v3]) X hP hS hl.1 kX7_114 m4_32 (c_X7_modulo l G fu (4 * v4) 7 6 _ _ _ q) rfl (Nat.le_of_ble_eq_true rfl) ⟨⟨Nat.le_of_ble_eq_true rfl, Nat.le_of_ble_eq_true rfl⟩, Nat.le_of_ble_eq_true rfl, Nat.le_of_ble_eq_true rfl⟩ dX7_isLeading_24) (fun H locs hP hS => ?_)
    refine lv_icmp_eq (tgt := 32) hx hb dX7_isLeading_27 (by decide) (fun hc => ?_) (fun hc => ?_)
    · replace h := ho_ip hc h
      refine lv_iconst (v := 2) hx hb dX7_isLeading_32 (by decide) ?_
      refine lv_aload_n hx hb dX7_isLeading_33 rfl (lv_at hl 0 rfl) ?_
      obtain ⟨r6, q, h⟩ := ho_bd h
      refine hw_gr X hP LX7 fX7_16 rfl q dX7_isLeading_34 ?_
      refine lv_iload_n hx hb dX7_isLeading_37 rfl (lv_at hl 1 rfl) ?_
      obtain ⟨v7, q, h⟩ := ho_bd h
      refine hw_li X hP q dX7_isLeading_38 ?_
      refine lv_bipush (v := 7) hx hb dX7_isLeading_39 (by decide) ?_
      obtain ⟨v8, q, h⟩ := ho_bd h
      refine hw_rm X q dX7_isLeading_41 ?_
      refine lv_imul hx hb dX7_isLeading_42 ?_
      refine lv_bipush (v := 7) hx hb dX7_isLeading_43 (by decide) ?_
      refine lv_iconst (v := 1) hx hb dX7_isLeading_45 (by decide) ?_
      obtain ⟨⟨v9, z⟩, q, h⟩ := ho_bd h
      refine hw_ci hS (hp_runS (As := [.int (2 * v8), .int 7, .int 1]) (rest := []) X hP hS hl.1 kX7_114 m4_32 (c_X7_modulo l G fu (2 * v8) 7 1 _ _ _ q) rfl (Nat.le_of_ble_eq_true rfl) ⟨⟨Nat.le_of_ble_eq_true rfl, Nat.le_of_ble_eq_true rfl⟩, Nat.le_of_ble_eq_true rfl, Nat.le_of_ble_eq_true rfl⟩ dX7_isLeading_46) (fun H locs hP hS => ?_)
      refine lv_istore_n (lv' := [(2, .int v9), (0, .ref a0), (1, .int x1)]) hx hb dX7_isLeading_49 rfl hl (by decide) rfl (fun ls hl => ?_)
      refine lv_aload_n hx hb dX7_isLeading_50 rfl (lv_at hl 1 rfl) ?_
      obtain ⟨v10, q, h⟩ := ho_bd h
      refine hw_gi X hP LX7 fX7_63 rfl q dX7_isLeading_51 ?_
      refine lv_if_le (tgt := 69) hx hb dX7_isLeading_54 (by decide) (fun hc => ?_) (fun hc => ?_)
      · replace h := ho_ip hc h
        exact B69 v9 z _ _ _ h hP hS (lv_sub hl [1, 2, 0] rfl)
      · replace h := ho_in hc h
        refine lv_iload_n hx hb dX7_isLeading_57 rfl (lv_at hl 0 rfl) ?_
        refine lv_aload_n hx hb dX7_isLeading_58 rfl (lv_at hl 1 rfl) ?_
        obtain ⟨v15, q, h⟩ := ho_bd h
        refine hw_gi X hP LX7 fX7_63 rfl q dX7_isLeading_59 ?_
        refine lv_icmp_ge (tgt := 69) hx hb dX7_isLeading_62 (by decide) (fun hc => ?_) (fun hc => ?_)
        · replace h := ho_ip hc h
          exact B69 v9 z _ _ _ h hP hS (lv_sub hl [1, 2, 0] rfl)
        · replace h := ho_in hc h
          refine lv_iconst (v := 1) hx hb dX7_isLeading_65 (by decide) ?_
          refine lv_goto (tgt := 93) hx hb dX7_isLeading_66 (by decide) ?_
          exact B93 1 z _ _ _ h hP hS (lv_sub hl [1, 2] rfl)
    · replace h := ho_in hc h
      exact B30 z _ _ _ h hP hS (lv_sub hl [0, 1] rfl)
