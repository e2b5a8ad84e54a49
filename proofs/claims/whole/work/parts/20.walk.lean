def f_X4_reset (fu : Nat) (a0 : Nat) (z : hp_S) : Option hp_S :=
  (ho_pi 4 a0 3 0 z).bind fun z =>
  (ho_pi 4 a0 4 0 z).bind fun z =>
  (ho_pi 4 a0 5 96 z).bind fun z =>
  some z
set_option maxHeartbeats 4000000 in
set_option maxRecDepth 100000 in
theorem c_X4_reset (l : Launch) (G : hp_G) (fu : Nat) (a0 : Nat) (z zq : hp_S) (h : f_X4_reset fu a0 z = some zq) : hp_M l G yX4_reset cX4_reset 1 none 0 0 0 0 [.ref a0] z (hp_Qv G zq) := by
  refine hp_M.of (by decide) (Nat.le_of_ble_eq_true rfl) ?_
  intro p e s m below meth c X hr hlocks hnm hP hS ls hl
  have X : hp_C G cX4_reset RX4 1 p s m c := X
  have hl : lv_has ls 1 [(0, .ref a0)] := hl
  have hx := X.1
  have hb := X.2.1
  unfold f_X4_reset at h
  refine lv_aload_n hx hb dX4_reset_0 rfl (lv_at hl 0 rfl) ?_
  refine lv_iconst (v := 0) hx hb dX4_reset_1 (by decide) ?_
  obtain ⟨z, q, h⟩ := ho_bd h
  refine hw_pi X hP hS LX4 fX4_28 rfl rfl rfl q dX4_reset_2 (fun H locs hP hS => ?_)
  refine lv_aload_n hx hb dX4_reset_5 rfl (lv_at hl 0 rfl) ?_
  refine lv_iconst (v := 0) hx hb dX4_reset_6 (by decide) ?_
  obtain ⟨z, q, h⟩ := ho_bd h
  refine hw_pi X hP hS LX4 fX4_21 rfl rfl rfl q dX4_reset_7 (fun H locs hP hS => ?_)
  refine lv_aload_n hx hb dX4_reset_10 rfl (lv_at hl 0 rfl) ?_
  refine lv_bipush (v := 96) hx hb dX4_reset_11 (by decide) ?_
  obtain ⟨z, q, h⟩ := ho_bd h
  refine hw_pi X hP hS LX4 fX4_25 rfl rfl rfl q dX4_reset_13 (fun H locs hP hS => ?_)
  exact hw_vret X hP hS hr hlocks h dX4_reset_16
def f_J7_fill_B20 (fu : Nat) (a0 : Nat) (x1 : Int32) (z : hp_S) : Option hp_S :=
  some z
def f_J7_fill_L5 (fu : Nat) (a0 : Nat) (x1 : Int32) (kk : hp_S → Option hp_S) : Nat → Int32 → Int32 → hp_S → Option hp_S
  | 0, _, _, _ => none
  | n + 1, w2, w3, z =>
    if w3 ≤ w2 then (
      kk  z
    ) else (
      (ho_si a0 w2 x1 z).bind fun z =>
      (ho_id (w2 + 1)).bind fun v2 =>
      (f_J7_fill_L5 fu a0 x1 kk n) v2 w3 z
    )
def f_J7_fill (fu : Nat) (a0 : Nat) (x1 : Int32) (z : hp_S) : Option hp_S :=
  (ho_ln 1 a0 z).bind fun v1 =>
  f_J7_fill_L5 fu a0 x1 (f_J7_fill_B20 fu a0 x1) fu 0 v1 z
set_option maxHeartbeats 4000000 in
set_option maxRecDepth 100000 in
theorem c_J7_fill (l : Launch) (G : hp_G) (fu : Nat) (a0 : Nat) (x1 : Int32) (z zq : hp_S) (h : f_J7_fill fu a0 x1 z = some zq) : hp_M l G yJ7_fill cJ7_fill 4 none 0 0 0 0 [.ref a0, .int x1] z (hp_Qv G zq) := by
  refine hp_M.of (by decide) (Nat.le_of_ble_eq_true rfl) ?_
  intro p e s m below meth c X hr hlocks hnm hP hS ls hl
  have X : hp_C G cJ7_fill RJ7 4 p s m c := X
  have hl : lv_has ls 4 [(0, .ref a0), (1, .int x1)] := hl
  have hx := X.1
  have hb := X.2.1
  have B20 : ∀ (z : hp_S) (H : Heap) (locs : List Loc) (ls : Array Slot), f_J7_fill_B20 fu a0 x1 z = some zq → hp_P G z H → va_S (hp_A G) s.heap H locs → lv_has ls 4 [(0, .ref a0), (1, .int x1)] → W p l e (hp_rm 0 0 0 0) s m [.ref a0, .int x1].toArray below meth c H locs 0 0 (MQ below (hp_Qv G zq) [.ref a0, .int x1].toArray s 0 0 (hp_A G)) (F0 m 20 ls []) := by
    intro z H locs ls h hP hS hl
    unfold f_J7_fill_B20 at h
    exact hw_vret X hP hS hr hlocks h dJ7_fill_20
  have L5 : ∀ (n5 : Nat) (w2 : Int32) (w3 : Int32) (z : hp_S) (H : Heap) (locs : List Loc) (ls : Array Slot), f_J7_fill_L5 fu a0 x1 (f_J7_fill_B20 fu a0 x1) n5 w2 w3 z = some zq → hp_P G z H → va_S (hp_A G) s.heap H locs → lv_has ls 4 [(0, .ref a0), (1, .int x1), (2, .int w2), (3, .int w3)] → W p l e (hp_rm 0 0 0 0) s m [.ref a0, .int x1].toArray below meth c H locs 0 0 (MQ below (hp_Qv G zq) [.ref a0, .int x1].toArray s 0 0 (hp_A G)) (F0 m 5 ls []) := by
    intro n5
    induction n5 with
    | zero =>
      intro w2 w3 z H locs ls h
      exact nomatch (h : (none : Option hp_S) = some zq)
    | succ n5 ih5 =>
      intro w2 w3 z H locs ls h hP hS hl
      rw [f_J7_fill_L5] at h
      refine lv_iload_n hx hb dJ7_fill_5 rfl (lv_at hl 2 rfl) ?_
      refine lv_iload_n hx hb dJ7_fill_6 rfl (lv_at hl 3 rfl) ?_
      refine lv_icmp_ge (tgt := 20) hx hb dJ7_fill_7 (by decide) (fun hc => ?_) (fun hc => ?_)
      · replace h := ho_ip hc h
        exact B20 z _ _ _ h hP hS (lv_sub hl [0, 1] rfl)
      · replace h := ho_in hc h
        refine lv_aload_n hx hb dJ7_fill_10 rfl (lv_at hl 0 rfl) ?_
        refine lv_iload_n hx hb dJ7_fill_11 rfl (lv_at hl 2 rfl) ?_
        refine lv_iload_n hx hb dJ7_fill_12 rfl (lv_at hl 1 rfl) ?_
        obtain ⟨z, q, h⟩ := ho_bd h
        refine hw_si X hP hS q dJ7_fill_13 (fun H locs hP hS => ?_)
        obtain ⟨v2, q, h⟩ := ho_bd h
        refine lv_iinc (v := v2) (lv' := [(2, .int v2), (0, .ref a0), (1, .int x1), (3, .int w3)]) hx hb dJ7_fill_14 hl (k := 2) rfl (Option.some.inj q) (by decide) rfl (fun ls hl => ?_)
        refine lv_goto (tgt := 5) hx hb dJ7_fill_17 (by decide) ?_
        exact ih5 v2 w3 z _ _ _ h hP hS (lv_sub hl [1, 2, 0, 3] rfl)
  unfold f_J7_fill at h
  refine lv_iconst (v := 0) hx hb dJ7_fill_0 (by decide) ?_
  refine lv_istore_n (lv' := [(2, .int 0), (0, .ref a0), (1, .int x1)]) hx hb dJ7_fill_1 rfl hl (by decide) rfl (fun ls hl => ?_)
  refine lv_aload_n hx hb dJ7_fill_2 rfl (lv_at hl 1 rfl) ?_
  obtain ⟨v1, q, h⟩ := ho_bd h
  refine hw_ln (t0 := 0) X hP (by decide) (by decide) rfl q dJ7_fill_3 ?_
  refine lv_istore_n (lv' := [(3, .int v1), (2, .int 0), (0, .ref a0), (1, .int x1)]) hx hb dJ7_fill_4 rfl hl (by decide) rfl (fun ls hl => ?_)
  exact L5 fu 0 v1 z _ _ _ h hP hS (lv_sub hl [2, 3, 1, 0] rfl)
def f_X4_lastTime_B22 (fu : Nat) (a0 : Nat) (s0 : Int32) (z : hp_S) : Option (Int32 × hp_S) :=
  some (s0, z)
def f_X4_lastTime (fu : Nat) (a0 : Nat) (z : hp_S) : Option (Int32 × hp_S) :=
  (ho_gi 4 a0 3 z).bind fun v1 =>
  if v1 ≤ 0 then (
    f_X4_lastTime_B22 fu a0 (-1) z
  ) else (
    (ho_gr 4 a0 0 z).bind fun r2 =>
    (ho_gi 4 a0 3 z).bind fun v3 =>
    (ho_li 1 r2 (v3 - 1) z).bind fun v4 =>
    f_X4_lastTime_B22 fu a0 v4 z
  )
set_option maxHeartbeats 4000000 in
set_option maxRecDepth 100000 in
theorem c_X4_lastTime (l : Launch) (G : hp_G) (fu : Nat) (a0 : Nat) (z : hp_S) (rq : Int32) (zq : hp_S) (h : f_X4_lastTime fu a0 z = some (rq, zq)) : hp_M l G yX4_lastTime cX4_lastTime 1 (some .int) 0 0 0 0 [.ref a0] z (hp_Qi G rq zq) := by
  refine hp_M.of (by decide) (Nat.le_of_ble_eq_true rfl) ?_
  intro p e s m below meth c X hr hlocks hnm hP hS ls hl
  have X : hp_C G cX4_lastTime RX4 1 p s m c := X
  have hl : lv_has ls 1 [(0, .ref a0)] := hl
  have hx := X.1
  have hb := X.2.1
  have B22 : ∀ (s0 : Int32) (z : hp_S) (H : Heap) (locs : List Loc) (ls : Array Slot), f_X4_lastTime_B22 fu a0 s0 z = some (rq, zq) → hp_P G z H → va_S (hp_A G) s.heap H locs → lv_has ls 1 [(0, .ref a0)] → W p l e (hp_rm 0 0 0 0) s m [.ref a0].toArray below meth c H locs 0 0 (MQ below (hp_Qi G rq zq) [.ref a0].toArray s 0 0 (hp_A G)) (F0 m 22 ls [.int s0]) := by
    intro s0 z H locs ls h hP hS hl
    unfold f_X4_lastTime_B22 at h
    exact hw_iret X hP hS hr hlocks h dX4_lastTime_22
  unfold f_X4_lastTime at h
  refine lv_aload_n hx hb dX4_lastTime_0 rfl (lv_at hl 0 rfl) ?_
  obtain ⟨v1, q, h⟩ := ho_bd h
  refine hw_gi X hP LX4 fX4_28 rfl q dX4_lastTime_1 ?_
  refine lv_if_le (tgt := 21) hx hb dX4_lastTime_4 (by decide) (fun hc => ?_) (fun hc => ?_)
  · replace h := ho_ip hc h
    refine lv_iconst (v := (-1)) hx hb dX4_lastTime_21 (by decide) ?_
    exact B22 (-1) z _ _ _ h hP hS (lv_sub hl [0] rfl)
  · replace h := ho_in hc h
    refine lv_aload_n hx hb dX4_lastTime_7 rfl (lv_at hl 0 rfl) ?_
    obtain ⟨r2, q, h⟩ := ho_bd h
    refine hw_gr X hP LX4 fX4_9 rfl q dX4_lastTime_8 ?_
    refine lv_aload_n hx hb dX4_lastTime_11 rfl (lv_at hl 0 rfl) ?_
    obtain ⟨v3, q, h⟩ := ho_bd h
    refine hw_gi X hP LX4 fX4_28 rfl q dX4_lastTime_12 ?_
    refine lv_iconst (v := 1) hx hb dX4_lastTime_15 (by decide) ?_
    refine lv_isub hx hb dX4_lastTime_16 ?_
    obtain ⟨v4, q, h⟩ := ho_bd h
    refine hw_li X hP q dX4_lastTime_17 ?_
    refine lv_goto (tgt := 22) hx hb dX4_lastTime_18 (by decide) ?_
    exact B22 v4 z _ _ _ h hP hS (lv_sub hl [0] rfl)
def f_X6_within_B15 (fu : Nat) (x0 : Int32) (x1 : Int32) (x2 : Int32) (s0 : Int32) (z : hp_S) : Option (Int32 × hp_S) :=
  if vp_nar .boolean s0 = s0 then some (s0, z) else none
def f_X6_within_B14 (fu : Nat) (x0 : Int32) (x1 : Int32) (x2 : Int32) (z : hp_S) : Option (Int32 × hp_S) :=
  f_X6_within_B15 fu x0 x1 x2 0 z
def f_X6_within (fu : Nat) (x0 : Int32) (x1 : Int32) (x2 : Int32) (z : hp_S) : Option (Int32 × hp_S) :=
  if x0 < x1 then (
    f_X6_within_B14 fu x0 x1 x2  z
  ) else (
    if x2 < x0 then (
      f_X6_within_B14 fu x0 x1 x2  z
    ) else (
      f_X6_within_B15 fu x0 x1 x2 1 z
    )
  )
set_option maxHeartbeats 4000000 in
set_option maxRecDepth 100000 in
theorem c_X6_within (l : Launch) (G : hp_G) (fu : Nat) (x0 : Int32) (x1 : Int32) (x2 : Int32) (z : hp_S) (rq : Int32) (zq : hp_S) (h : f_X6_within fu x0 x1 x2 z = some (rq, zq)) : hp_M l G yX6_within cX6_within 3 (some .boolean) 0 0 0 0 [.int x0, .int x1, .int x2] z (hp_Qi G rq zq) := by
  refine hp_M.of (by decide) (Nat.le_of_ble_eq_true rfl) ?_
  intro p e s m below meth c X hr hlocks hnm hP hS ls hl
  have X : hp_C G cX6_within RX6 3 p s m c := X
  have hl : lv_has ls 3 [(0, .int x0), (1, .int x1), (2, .int x2)] := hl
  have hx := X.1
  have hb := X.2.1
  have B15 : ∀ (s0 : Int32) (z : hp_S) (H : Heap) (locs : List Loc) (ls : Array Slot), f_X6_within_B15 fu x0 x1 x2 s0 z = some (rq, zq) → hp_P G z H → va_S (hp_A G) s.heap H locs → lv_has ls 3 [(0, .int x0), (1, .int x1), (2, .int x2)] → W p l e (hp_rm 0 0 0 0) s m [.int x0, .int x1, .int x2].toArray below meth c H locs 0 0 (MQ below (hp_Qi G rq zq) [.int x0, .int x1, .int x2].toArray s 0 0 (hp_A G)) (F0 m 15 ls [.int s0]) := by
    intro s0 z H locs ls h hP hS hl
    unfold f_X6_within_B15 at h
    exact hw_zret X hP hS hr hlocks h dX6_within_15
  have B14 : ∀ (z : hp_S) (H : Heap) (locs : List Loc) (ls : Array Slot), f_X6_within_B14 fu x0 x1 x2 z = some (rq, zq) → hp_P G z H → va_S (hp_A G) s.heap H locs → lv_has ls 3 [(0, .int x0), (1, .int x1), (2, .int x2)] → W p l e (hp_rm 0 0 0 0) s m [.int x0, .int x1, .int x2].toArray below meth c H locs 0 0 (MQ below (hp_Qi G rq zq) [.int x0, .int x1, .int x2].toArray s 0 0 (hp_A G)) (F0 m 14 ls []) := by
    intro z H locs ls h hP hS hl
    unfold f_X6_within_B14 at h
    refine lv_iconst (v := 0) hx hb dX6_within_14 (by decide) ?_
    exact B15 0 z _ _ _ h hP hS (lv_sub hl [0, 1, 2] rfl)
  unfold f_X6_within at h
  refine lv_iload_n hx hb dX6_within_0 rfl (lv_at hl 0 rfl) ?_
  refine lv_iload_n hx hb dX6_within_1 rfl (lv_at hl 1 rfl) ?_
  refine lv_icmp_lt (tgt := 14) hx hb dX6_within_2 (by decide) (fun hc => ?_) (fun hc => ?_)
  · replace h := ho_ip hc h
    exact B14 z _ _ _ h hP hS (lv_sub hl [0, 1, 2] rfl)
  · replace h := ho_in hc h
    refine lv_iload_n hx hb dX6_within_5 rfl (lv_at hl 0 rfl) ?_
    refine lv_iload_n hx hb dX6_within_6 rfl (lv_at hl 2 rfl) ?_
    refine lv_icmp_gt (tgt := 14) hx hb dX6_within_7 (by decide) (fun hc => ?_) (fun hc => ?_)
    · replace h := ho_ip hc h
      exact B14 z _ _ _ h hP hS (lv_sub hl [0, 1, 2] rfl)
    · replace h := ho_in hc h
      refine lv_iconst (v := 1) hx hb dX6_within_10 (by decide) ?_
      refine lv_goto (tgt := 15) hx hb dX6_within_11 (by decide) ?_
      exact B15 1 z _ _ _ h hP hS (lv_sub hl [0, 1, 2] rfl)
def f_X6_isVoice (fu : Nat) (a0 : Nat) (x1 : Int32) (z : hp_S) : Option (Int32 × hp_S) :=
  (ho_gr 6 a0 0 z).bind fun r1 =>
  (ho_ln (4 + 53) r1 z).bind fun v2 =>
  (f_X6_within fu x1 0 (v2 - 1) z).bind fun ⟨v3, z⟩ =>
  if vp_nar .boolean v3 = v3 then some (v3, z) else none
set_option maxHeartbeats 4000000 in
set_option maxRecDepth 100000 in
theorem c_X6_isVoice (l : Launch) (G : hp_G) (fu : Nat) (a0 : Nat) (x1 : Int32) (z : hp_S) (rq : Int32) (zq : hp_S) (h : f_X6_isVoice fu a0 x1 z = some (rq, zq)) : hp_M l G yX6_isVoice cX6_isVoice 2 (some .boolean) 1 22 0 0 [.ref a0, .int x1] z (hp_Qi G rq zq) := by
  refine hp_M.of (by decide) (Nat.le_of_ble_eq_true rfl) ?_
  intro p e s m below meth c X hr hlocks hnm hP hS ls hl
  have X : hp_C G cX6_isVoice RX6 2 p s m c := X
  have hl : lv_has ls 2 [(0, .ref a0), (1, .int x1)] := hl
  have hx := X.1
  have hb := X.2.1
  unfold f_X6_isVoice at h
  refine lv_iload_n hx hb dX6_isVoice_0 rfl (lv_at hl 1 rfl) ?_
  refine lv_iconst (v := 0) hx hb dX6_isVoice_1 (by decide) ?_
  refine lv_aload_n hx hb dX6_isVoice_2 rfl (lv_at hl 0 rfl) ?_
  obtain ⟨r1, q, h⟩ := ho_bd h
  refine hw_gr X hP LX6 fX6_20 rfl q dX6_isVoice_3 ?_
  obtain ⟨v2, q, h⟩ := ho_bd h
  refine hw_lnr (t0 := 2) X hP rfl q dX6_isVoice_6 ?_
  refine lv_iconst (v := 1) hx hb dX6_isVoice_7 (by decide) ?_
  refine lv_isub hx hb dX6_isVoice_8 ?_
  obtain ⟨⟨v3, z⟩, q, h⟩ := ho_bd h
  refine hw_ci hS (hp_runS (As := [.int x1, .int 0, .int (v2 - 1)]) (rest := []) X hP hS hl.1 kX6_97 m2_35 (c_X6_within l G fu x1 0 (v2 - 1) _ _ _ q) rfl (Nat.le_of_ble_eq_true rfl) ⟨⟨Nat.le_of_ble_eq_true rfl, Nat.le_of_ble_eq_true rfl⟩, Nat.le_of_ble_eq_true rfl, Nat.le_of_ble_eq_true rfl⟩ dX6_isVoice_9) (fun H locs hP hS => ?_)
  exact hw_zret X hP hS hr hlocks h dX6_isVoice_12
def f_X4_append (fu : Nat) (a0 : Nat) (x1 : Int32) (x2 : Int32) (x3 : Int32) (z : hp_S) : Option (Int32 × hp_S) :=
  (ho_is 4 a0 z).bind fun _ =>
  (f_X4_lastTime fu a0 z).bind fun ⟨v1, z⟩ =>
  if v1 < x1 then (
    (ho_gi 4 a0 3 z).bind fun v2 =>
    if v2 < 24 then (
      (ho_gr 4 a0 0 z).bind fun r3 =>
      (ho_gi 4 a0 3 z).bind fun v4 =>
      (ho_si r3 v4 x1 z).bind fun z =>
      (ho_gr 4 a0 1 z).bind fun r5 =>
      (ho_gi 4 a0 3 z).bind fun v6 =>
      (ho_si r5 v6 x2 z).bind fun z =>
      (ho_gr 4 a0 2 z).bind fun r7 =>
      (ho_gi 4 a0 3 z).bind fun v8 =>
      (ho_si r7 v8 x3 z).bind fun z =>
      (ho_gi 4 a0 3 z).bind fun v9 =>
      (ho_pi 4 a0 3 (v9 + 1) z).bind fun z =>
      (ho_gi 4 a0 3 z).bind fun v10 =>
      some (v10, z)
    ) else (
      some ((-3), z)
    )
  ) else (
    some ((-4), z)
  )
set_option maxHeartbeats 4000000 in
set_option maxRecDepth 100000 in
theorem c_X4_append (l : Launch) (G : hp_G) (fu : Nat) (a0 : Nat) (x1 : Int32) (x2 : Int32) (x3 : Int32) (z : hp_S) (rq : Int32) (zq : hp_S) (h : f_X4_append fu a0 x1 x2 x3 z = some (rq, zq)) : hp_M l G yX4_append cX4_append 4 (some .int) 1 20 0 0 [.ref a0, .int x1, .int x2, .int x3] z (hp_Qi G rq zq) := by
  refine hp_M.of (by decide) (Nat.le_of_ble_eq_true rfl) ?_
  intro p e s m below meth c X hr hlocks hnm hP hS ls hl
  have X : hp_C G cX4_append RX4 4 p s m c := X
  have hl : lv_has ls 4 [(0, .ref a0), (1, .int x1), (2, .int x2), (3, .int x3)] := hl
  have hx := X.1
  have hb := X.2.1
  unfold f_X4_append at h
  refine lv_iload_n hx hb dX4_append_0 rfl (lv_at hl 1 rfl) ?_
  refine lv_aload_n hx hb dX4_append_1 rfl (lv_at hl 0 rfl) ?_
  obtain ⟨_, hs, h⟩ := ho_bd h
  obtain ⟨⟨v1, z⟩, q, h⟩ := ho_bd h
  refine hw_ci hS (hp_runV (As := []) (rest := [.int x1]) X hP hS hl.1 LX4 (ho_is_s hs) kX4_31 ⟨m2_8, m2_9⟩ (c_X4_lastTime l G fu a0 _ _ _ q) rfl (Nat.le_of_ble_eq_true rfl) ⟨⟨Nat.le_of_ble_eq_true rfl, Nat.le_of_ble_eq_true rfl⟩, Nat.le_of_ble_eq_true rfl, Nat.le_of_ble_eq_true rfl⟩ dX4_append_2) (fun H locs hP hS => ?_)
  refine lv_icmp_gt (tgt := 11) hx hb dX4_append_5 (by decide) (fun hc => ?_) (fun hc => ?_)
  · replace h := ho_ip hc h
    refine lv_aload_n hx hb dX4_append_11 rfl (lv_at hl 0 rfl) ?_
    obtain ⟨v2, q, h⟩ := ho_bd h
    refine hw_gi X hP LX4 fX4_28 rfl q dX4_append_12 ?_
    refine lv_bipush (v := 24) hx hb dX4_append_15 (by decide) ?_
    refine lv_icmp_lt (tgt := 23) hx hb dX4_append_17 (by decide) (fun hc => ?_) (fun hc => ?_)
    · replace h := ho_ip hc h
      refine lv_aload_n hx hb dX4_append_23 rfl (lv_at hl 0 rfl) ?_
      obtain ⟨r3, q, h⟩ := ho_bd h
      refine hw_gr X hP LX4 fX4_9 rfl q dX4_append_24 ?_
      refine lv_aload_n hx hb dX4_append_27 rfl (lv_at hl 0 rfl) ?_
      obtain ⟨v4, q, h⟩ := ho_bd h
      refine hw_gi X hP LX4 fX4_28 rfl q dX4_append_28 ?_
      refine lv_iload_n hx hb dX4_append_31 rfl (lv_at hl 1 rfl) ?_
      obtain ⟨z, q, h⟩ := ho_bd h
      refine hw_si X hP hS q dX4_append_32 (fun H locs hP hS => ?_)
      refine lv_aload_n hx hb dX4_append_33 rfl (lv_at hl 0 rfl) ?_
      obtain ⟨r5, q, h⟩ := ho_bd h
      refine hw_gr X hP LX4 fX4_15 rfl q dX4_append_34 ?_
      refine lv_aload_n hx hb dX4_append_37 rfl (lv_at hl 0 rfl) ?_
      obtain ⟨v6, q, h⟩ := ho_bd h
      refine hw_gi X hP LX4 fX4_28 rfl q dX4_append_38 ?_
      refine lv_iload_n hx hb dX4_append_41 rfl (lv_at hl 2 rfl) ?_
      obtain ⟨z, q, h⟩ := ho_bd h
      refine hw_si X hP hS q dX4_append_42 (fun H locs hP hS => ?_)
      refine lv_aload_n hx hb dX4_append_43 rfl (lv_at hl 0 rfl) ?_
      obtain ⟨r7, q, h⟩ := ho_bd h
      refine hw_gr X hP LX4 fX4_18 rfl q dX4_append_44 ?_
      refine lv_aload_n hx hb dX4_append_47 rfl (lv_at hl 0 rfl) ?_
      obtain ⟨v8, q, h⟩ := ho_bd h
      refine hw_gi X hP LX4 fX4_28 rfl q dX4_append_48 ?_
      refine lv_iload_n hx hb dX4_append_51 rfl (lv_at hl 3 rfl) ?_
      obtain ⟨z, q, h⟩ := ho_bd h
      refine hw_si X hP hS q dX4_append_52 (fun H locs hP hS => ?_)
      refine lv_aload_n hx hb dX4_append_53 rfl (lv_at hl 0 rfl) ?_
      refine lv_dup hx hb dX4_append_54 rfl ?_
      obtain ⟨v9, q, h⟩ := ho_bd h
      refine hw_gi X hP LX4 fX4_28 rfl q dX4_append_55 ?_
      refine lv_iconst (v := 1) hx hb dX4_append_58 (by decide) ?_
      refine lv_iadd hx hb dX4_append_59 ?_
      obtain ⟨z, q, h⟩ := ho_bd h
      refine hw_pi X hP hS LX4 fX4_28 rfl rfl rfl q dX4_append_60 (fun H locs hP hS => ?_)
      refine lv_aload_n hx hb dX4_append_63 rfl (lv_at hl 0 rfl) ?_
      obtain ⟨v10, q, h⟩ := ho_bd h
      refine hw_gi X hP LX4 fX4_28 rfl q dX4_append_64 ?_
      exact hw_iret X hP hS hr hlocks h dX4_append_67
    · replace h := ho_in hc h
      refine lv_bipush (v := (-3)) hx hb dX4_append_20 (by decide) ?_
      exact hw_iret X hP hS hr hlocks h dX4_append_22
  · replace h := ho_in hc h
    refine lv_bipush (v := (-4)) hx hb dX4_append_8 (by decide) ?_
    exact hw_iret X hP hS hr hlocks h dX4_append_10
def f_X1_holds_B38 (fu : Nat) (a0 : Nat) (x1 : Int32) (x2 : Int32) (z : hp_S) : Option (Int32 × hp_S) :=
  if vp_nar .boolean 0 = 0 then some (0, z) else none
def f_X1_holds_B32 (fu : Nat) (a0 : Nat) (x1 : Int32) (x2 : Int32) (ag : Int32 → hp_S → Option (Int32 × hp_S)) (kk : hp_S → Option (Int32 × hp_S)) (w3 : Int32) (z : hp_S) : Option (Int32 × hp_S) :=
  (ho_id (w3 + 1)).bind fun v4 =>
  ag v4 z
def f_X1_holds_L2 (fu : Nat) (a0 : Nat) (x1 : Int32) (x2 : Int32) (kk : hp_S → Option (Int32 × hp_S)) : Nat → Int32 → hp_S → Option (Int32 × hp_S)
  | 0, _, _ => none
  | n + 1, w3, z =>
    (ho_gi 1 a0 2 z).bind fun v1 =>
    if v1 ≤ w3 then (
      kk  z
    ) else (
      (ho_gr 1 a0 0 z).bind fun r2 =>
      (ho_li 1 r2 w3 z).bind fun v3 =>
      if v3 = x1 then (
        (ho_gr 1 a0 1 z).bind fun r5 =>
        (ho_li 1 r5 w3 z).bind fun v6 =>
        if v6 = x2 then (
          if vp_nar .boolean 1 = 1 then some (1, z) else none
        ) else (
          f_X1_holds_B32 fu a0 x1 x2 (f_X1_holds_L2 fu a0 x1 x2 kk n) kk w3 z
        )
      ) else (
        f_X1_holds_B32 fu a0 x1 x2 (f_X1_holds_L2 fu a0 x1 x2 kk n) kk w3 z
      )
    )
def f_X1_holds (fu : Nat) (a0 : Nat) (x1 : Int32) (x2 : Int32) (z : hp_S) : Option (Int32 × hp_S) :=
  f_X1_holds_L2 fu a0 x1 x2 (f_X1_holds_B38 fu a0 x1 x2) fu 0 z
set_option maxHeartbeats 4000000 in
set_option maxRecDepth 100000 in
theorem c_X1_holds (l : Launch) (G : hp_G) (fu : Nat) (a0 : Nat) (x1 : Int32) (x2 : Int32) (z : hp_S) (rq : Int32) (zq : hp_S) (h : f_X1_holds fu a0 x1 x2 z = some (rq, zq)) : hp_M l G yX1_holds cX1_holds 4 (some .boolean) 0 0 0 0 [.ref a0, .int x1, .int x2] z (hp_Qi G rq zq) := by
  refine hp_M.of (by decide) (Nat.le_of_ble_eq_true rfl) ?_
  intro p e s m below meth c X hr hlocks hnm hP hS ls hl
  have X : hp_C G cX1_holds RX1 4 p s m c := X
  have hl : lv_has ls 4 [(0, .ref a0), (1, .int x1), (2, .int x2)] := hl
  have hx := X.1
  have hb := X.2.1
  have B38 : ∀ (z : hp_S) (H : Heap) (locs : List Loc) (ls : Array Slot), f_X1_holds_B38 fu a0 x1 x2 z = some (rq, zq) → hp_P G z H → va_S (hp_A G) s.heap H locs → lv_has ls 4 [(0, .ref a0), (1, .int x1), (2, .int x2)] → W p l e (hp_rm 0 0 0 0) s m [.ref a0, .int x1, .int x2].toArray below meth c H locs 0 0 (MQ below (hp_Qi G rq zq) [.ref a0, .int x1, .int x2].toArray s 0 0 (hp_A G)) (F0 m 38 ls []) := by
    intro z H locs ls h hP hS hl
    unfold f_X1_holds_B38 at h
    refine lv_iconst (v := 0) hx hb dX1_holds_38 (by decide) ?_
    exact hw_zret X hP hS hr hlocks h dX1_holds_39
  have L2 : ∀ (n2 : Nat) (w3 : Int32) (z : hp_S) (H : Heap) (locs : List Loc) (ls : Array Slot), f_X1_holds_L2 fu a0 x1 x2 (f_X1_holds_B38 fu a0 x1 x2) n2 w3 z = some (rq, zq) → hp_P G z H → va_S (hp_A G) s.heap H locs → lv_has ls 4 [(0, .ref a0), (1, .int x1), (2, .int x2), (3, .int w3)] → W p l e (hp_rm 0 0 0 0) s m [.ref a0, .int x1, .int x2].toArray below meth c H locs 0 0 (MQ below (hp_Qi G rq zq) [.ref a0, .int x1, .int x2].toArray s 0 0 (hp_A G)) (F0 m 2 ls []) := by
    intro n2
    induction n2 with
    | zero =>
      intro w3 z H locs ls h
      exact nomatch (h : (none : Option (Int32 × hp_S)) = some (rq, zq))
    | succ n2 ih2 =>
      have B32 : ∀ (w3 : Int32) (z : hp_S) (H : Heap) (locs : List Loc) (ls : Array Slot), f_X1_holds_B32 fu a0 x1 x2 (f_X1_holds_L2 fu a0 x1 x2 (f_X1_holds_B38 fu a0 x1 x2) n2) (f_X1_holds_B38 fu a0 x1 x2) w3 z = some (rq, zq) → hp_P G z H → va_S (hp_A G) s.heap H locs → lv_has ls 4 [(0, .ref a0), (1, .int x1), (2, .int x2), (3, .int w3)] → W p l e (hp_rm 0 0 0 0) s m [.ref a0, .int x1, .int x2].toArray below meth c H locs 0 0 (MQ below (hp_Qi G rq zq) [.ref a0, .int x1, .int x2].toArray s 0 0 (hp_A G)) (F0 m 32 ls []) := by
        intro w3 z H locs ls h hP hS hl
        unfold f_X1_holds_B32 at h
        obtain ⟨v4, q, h⟩ := ho_bd h
        refine lv_iinc (v := v4) (lv' := [(3, .int v4), (0, .ref a0), (1, .int x1), (2, .int x2)]) hx hb dX1_holds_32 hl (k := 3) rfl (Option.some.inj q) (by decide) rfl (fun ls hl => ?_)
        refine lv_goto (tgt := 2) hx hb dX1_holds_35 (by decide) ?_
        exact ih2 v4 z _ _ _ h hP hS (lv_sub hl [1, 2, 3, 0] rfl)
      intro w3 z H locs ls h hP hS hl
      rw [f_X1_holds_L2] at h
      refine lv_iload_n hx hb dX1_holds_2 rfl (lv_at hl 3 rfl) ?_
      refine lv_aload_n hx hb dX1_holds_3 rfl (lv_at hl 0 rfl) ?_
      obtain ⟨v1, q, h⟩ := ho_bd h
      refine hw_gi X hP LX1 fX1_24 rfl q dX1_holds_4 ?_
      refine lv_icmp_ge (tgt := 38) hx hb dX1_holds_7 (by decide) (fun hc => ?_) (fun hc => ?_)
      · replace h := ho_ip hc h
        exact B38 z _ _ _ h hP hS (lv_sub hl [0, 1, 2] rfl)
      · replace h := ho_in hc h
        refine lv_aload_n hx hb dX1_holds_10 rfl (lv_at hl 0 rfl) ?_
        obtain ⟨r2, q, h⟩ := ho_bd h
        refine hw_gr X hP LX1 fX1_15 rfl q dX1_holds_11 ?_
        refine lv_iload_n hx hb dX1_holds_14 rfl (lv_at hl 3 rfl) ?_
        obtain ⟨v3, q, h⟩ := ho_bd h
        refine hw_li X hP q dX1_holds_15 ?_
        refine lv_iload_n hx hb dX1_holds_16 rfl (lv_at hl 1 rfl) ?_
        refine lv_icmp_ne (tgt := 32) hx hb dX1_holds_17 (by decide) (fun hc => ?_) (fun hc => ?_)
        · replace h := ho_in hc h
          exact B32 w3 z _ _ _ h hP hS (lv_sub hl [0, 1, 2, 3] rfl)
        · replace h := ho_ip hc h
          refine lv_aload_n hx hb dX1_holds_20 rfl (lv_at hl 0 rfl) ?_
          obtain ⟨r5, q, h⟩ := ho_bd h
          refine hw_gr X hP LX1 fX1_21 rfl q dX1_holds_21 ?_
          refine lv_iload_n hx hb dX1_holds_24 rfl (lv_at hl 3 rfl) ?_
          obtain ⟨v6, q, h⟩ := ho_bd h
          refine hw_li X hP q dX1_holds_25 ?_
          refine lv_iload_n hx hb dX1_holds_26 rfl (lv_at hl 2 rfl) ?_
          refine lv_icmp_ne (tgt := 32) hx hb dX1_holds_27 (by decide) (fun hc => ?_) (fun hc => ?_)
          · replace h := ho_in hc h
            exact B32 w3 z _ _ _ h hP hS (lv_sub hl [0, 1, 2, 3] rfl)
          · replace h := ho_ip hc h
            refine lv_iconst (v := 1) hx hb dX1_holds_30 (by decide) ?_
            exact hw_zret X hP hS hr hlocks h dX1_holds_31
  unfold f_X1_holds at h
  refine lv_iconst (v := 0) hx hb dX1_holds_0 (by decide) ?_
  refine lv_istore_n (lv' := [(3, .int 0), (0, .ref a0), (1, .int x1), (2, .int x2)]) hx hb dX1_holds_1 rfl hl (by decide) rfl (fun ls hl => ?_)
  exact L2 fu 0 z _ _ _ h hP hS (lv_sub hl [1, 2, 3, 0] rfl)
