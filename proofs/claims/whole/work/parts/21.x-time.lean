def f_X4_reset (fu : Nat) (a0 : Nat) (z : hp_S) : Option hp_S :=
  (ho_pi 4 a0 3 0 z).bind fun z =>
  (ho_pi 4 a0 4 0 z).bind fun z =>
  (ho_pi 4 a0 5 96 z).bind fun z =>
  some z
set_option maxHeartbeats 4000000 in
set_option maxRecDepth 100000 in
theorem c_X4_reset (l : Launch) (G : hp_G) (fu : Nat) (a0 : Nat) (z zq : hp_S) (h : f_X4_reset fu a0 z = some zq) : hp_M l G yX4_reset cX4_reset 1 none 0 0 0 0 [.ref a0] z (hp_Qv G zq) := by
  refine hp_M.of (by decide) (Nat.le_of_ble_eq_true rfl) ?_
  intro p e s m below meth c X hr hlocks hnm hP hS ls hl
  have X : hp_C G cX4_reset RX4 1 p s m c := X
  have hl : lv_has ls 1 [(0, .ref a0)] := hl
  have hx := X.1
  have hb := X.2.1
  unfold f_X4_reset at h
  refine lv_aload_n hx hb dX4_reset_0 rfl (lv_at hl 0 rfl) ?_
  refine lv_iconst (v := 0) hx hb dX4_reset_1 (by decide) ?_
  obtain ⟨z, q, h⟩ := ho_bd h
  refine hw_pi X hP hS LX4 fX4_28 rfl rfl rfl q dX4_reset_2 (fun H locs hP hS => ?_)
  refine lv_aload_n hx hb dX4_reset_5 rfl (lv_at hl 0 rfl) ?_
  refine lv_iconst (v := 0) hx hb dX4_reset_6 (by decide) ?_
  obtain ⟨z, q, h⟩ := ho_bd h
  refine hw_pi X hP hS LX4 fX4_21 rfl rfl rfl q dX4_reset_7 (fun H locs hP hS => ?_)
  refine lv_aload_n hx hb dX4_reset_10 rfl (lv_at hl 0 rfl) ?_
  refine lv_bipush (v := 96) hx hb dX4_reset_11 (by decide) ?_
  obtain ⟨z, q, h⟩ := ho_bd h
  refine hw_pi X hP hS LX4 fX4_25 rfl rfl rfl q dX4_reset_13 (fun H locs hP hS => ?_)
  exact hw_vret X hP hS hr hlocks h dX4_reset_16
def f_J7_fill_B20 (fu : Nat) (a0 : Nat) (x1 : Int32) (z : hp_S) : Option hp_S :=
  some z
def f_J7_fill_L5 (fu : Nat) (a0 : Nat) (x1 : Int32) (kk : hp_S → Option hp_S) : Nat → Int32 → Int32 → hp_S → Option hp_S
  | 0, _, _, _ => none
  | n + 1, w2, w3, z =>
    if w3 ≤ w2 then (
      kk  z
    ) else (
      (ho_si a0 w2 x1 z).bind fun z =>
      (ho_id (w2 + 1)).bind fun v2 =>
      (f_J7_fill_L5 fu a0 x1 kk n) v2 w3 z
    )
def f_J7_fill (fu : Nat) (a0 : Nat) (x1 : Int32) (z : hp_S) : Option hp_S :=
  (ho_ln 1 a0 z).bind fun v1 =>
  f_J7_fill_L5 fu a0 x1 (f_J7_fill_B20 fu a0 x1) fu 0 v1 z
set_option maxHeartbeats 4000000 in
set_option maxRecDepth 100000 in
theorem c_J7_fill (l : Launch) (G : hp_G) (fu : Nat) (a0 : Nat) (x1 : Int32) (z zq : hp_S) (h : f_J7_fill fu a0 x1 z = some zq) : hp_M l G yJ7_fill cJ7_fill 4 none 0 0 0 0 [.ref a0, .int x1] z (hp_Qv G zq) := by
  refine hp_M.of (by decide) (Nat.le_of_ble_eq_true rfl) ?_
  intro p e s m below meth c X hr hlocks hnm hP hS ls hl
  have X : hp_C G cJ7_fill RJ7 4 p s m c := X
  have hl : lv_has ls 4 [(0, .ref a0), (1, .int x1)] := hl
  have hx := X.1
  have hb := X.2.1
  have B20 : ∀ (z : hp_S) (H : Heap) (locs : List Loc) (ls : Array Slot), f_J7_fill_B20 fu a0 x1 z = some zq → hp_P G z H → va_S (hp_A G) s.heap H locs → lv_has ls 4 [(0, .ref a0), (1, .int x1)] → W p l e (hp_rm 0 0 0 0) s m [.ref a0, .int x1].toArray below meth c H locs 0 0 (MQ below (hp_Qv G zq) [.ref a0, .int x1].toArray s 0 0 (hp_A G)) (F0 m 20 ls []) := by
    intro z H locs ls h hP hS hl
    unfold f_J7_fill_B20 at h
    exact hw_vret X hP hS hr hlocks h dJ7_fill_20
  have L5 : ∀ (n5 : Nat) (w2 : Int32) (w3 : Int32) (z : hp_S) (H : Heap) (locs : List Loc) (ls : Array Slot), f_J7_fill_L5 fu a0 x1 (f_J7_fill_B20 fu a0 x1) n5 w2 w3 z = some zq → hp_P G z H → va_S (hp_A G) s.heap H locs → lv_has ls 4 [(0, .ref a0), (1, .int x1), (2, .int w2), (3, .int w3)] → W p l e (hp_rm 0 0 0 0) s m [.ref a0, .int x1].toArray below meth c H locs 0 0 (MQ below (hp_Qv G zq) [.ref a0, .int x1].toArray s 0 0 (hp_A G)) (F0 m 5 ls []) := by
    intro n5
    induction n5 with
    | zero =>
      intro w2 w3 z H locs ls h
      exact nomatch (h : (none : Option hp_S) = some zq)
    | succ n5 ih5 =>
      intro w2 w3 z H locs ls h hP hS hl
      rw [f_J7_fill_L5] at h
      refine lv_iload_n hx hb dJ7_fill_5 rfl (lv_at hl 2 rfl) ?_
      refine lv_iload_n hx hb dJ7_fill_6 rfl (lv_at hl 3 rfl) ?_
      refine lv_icmp_ge (tgt := 20) hx hb dJ7_fill_7 (by decide) (fun hc => ?_) (fun hc => ?_)
      · replace h := ho_ip hc h
        exact B20 z _ _ _ h hP hS (lv_sub hl [0, 1] rfl)
      · replace h := ho_in hc h
        refine lv_aload_n hx hb dJ7_fill_10 rfl (lv_at hl 0 rfl) ?_
        refine lv_iload_n hx hb dJ7_fill_11 rfl (lv_at hl 2 rfl) ?_
        refine lv_iload_n hx hb dJ7_fill_12 rfl (lv_at hl 1 rfl) ?_
        obtain ⟨z, q, h⟩ := ho_bd h
        refine hw_si X hP hS q dJ7_fill_13 (fun H locs hP hS => ?_)
        obtain ⟨v2, q, h⟩ := ho_bd h
        refine lv_iinc (v := v2) (lv' := [(2, .int v2), (0, .ref a0), (1, .int x1), (3, .int w3)]) hx hb dJ7_fill_14 hl (k := 2) rfl (Option.some.inj q) (by decide) rfl (fun ls hl => ?_)
        refine lv_goto (tgt := 5) hx hb dJ7_fill_17 (by decide) ?_
        exact ih5 v2 w3 z _ _ _ h hP hS (lv_sub hl [1, 2, 0, 3] rfl)
  unfold f_J7_fill at h
  refine lv_iconst (v := 0) hx hb dJ7_fill_0 (by decide) ?_
  refine lv_istore_n (lv' := [(2, .int 0), (0, .ref a0), (1, .int x1)]) hx hb dJ7_fill_1 rfl hl (by decide) rfl (fun ls hl => ?_)
  refine lv_aload_n hx hb dJ7_fill_2 rfl (lv_at hl 1 rfl) ?_
  obtain ⟨v1, q, h⟩ := ho_bd h
  refine hw_ln (t0 := 0) X hP (by decide) (by decide) rfl q dJ7_fill_3 ?_
  refine lv_istore_n (lv' := [(3, .int v1), (2, .int 0), (0, .ref a0), (1, .int x1)]) hx hb dJ7_fill_4 rfl hl (by decide) rfl (fun ls hl => ?_)
  exact L5 fu 0 v1 z _ _ _ h hP hS (lv_sub hl [2, 3, 1, 0] rfl)
def f_X2_reset (fu : Nat) (a0 : Nat) (z : hp_S) : Option hp_S :=
  (ho_gr 2 a0 0 z).bind fun r1 =>
  (f_J7_fill fu r1 0 z).bind fun z =>
  (ho_gr 2 a0 3 z).bind fun r2 =>
  (f_J7_fill fu r2 0 z).bind fun z =>
  (ho_pi 2 a0 2 0 z).bind fun z =>
  (ho_pi 2 a0 4 0 z).bind fun z =>
  (ho_pi 2 a0 5 0 z).bind fun z =>
  some z
set_option maxHeartbeats 4000000 in
set_option maxRecDepth 100000 in
theorem c_X2_reset (l : Launch) (G : hp_G) (fu : Nat) (a0 : Nat) (z zq : hp_S) (h : f_X2_reset fu a0 z = some zq) : hp_M l G yX2_reset cX2_reset 1 none 1 23 0 0 [.ref a0] z (hp_Qv G zq) := by
  refine hp_M.of (by decide) (Nat.le_of_ble_eq_true rfl) ?_
  intro p e s m below meth c X hr hlocks hnm hP hS ls hl
  have X : hp_C G cX2_reset RX2 1 p s m c := X
  have hl : lv_has ls 1 [(0, .ref a0)] := hl
  have hx := X.1
  have hb := X.2.1
  unfold f_X2_reset at h
  refine lv_aload_n hx hb dX2_reset_0 rfl (lv_at hl 0 rfl) ?_
  obtain ⟨r1, q, h⟩ := ho_bd h
  refine hw_gr X hP LX2 fX2_9 rfl q dX2_reset_1 ?_
  refine lv_iconst (v := 0) hx hb dX2_reset_4 (by decide) ?_
  obtain ⟨z, q, h⟩ := ho_bd h
  refine hw_cv hS (hp_runS (As := [.ref r1, .int 0]) (rest := []) X hP hS hl.1 kX2_21 m1_237 (c_J7_fill l G fu r1 0 _ _ q) rfl (Nat.le_of_ble_eq_true rfl) ⟨⟨Nat.le_of_ble_eq_true rfl, Nat.le_of_ble_eq_true rfl⟩, Nat.le_of_ble_eq_true rfl, Nat.le_of_ble_eq_true rfl⟩ dX2_reset_5) (fun H locs hP hS => ?_)
  refine lv_aload_n hx hb dX2_reset_8 rfl (lv_at hl 0 rfl) ?_
  obtain ⟨r2, q, h⟩ := ho_bd h
  refine hw_gr X hP LX2 fX2_18 rfl q dX2_reset_9 ?_
  refine lv_iconst (v := 0) hx hb dX2_reset_12 (by decide) ?_
  obtain ⟨z, q, h⟩ := ho_bd h
  refine hw_cv hS (hp_runS (As := [.ref r2, .int 0]) (rest := []) X hP hS hl.1 kX2_21 m1_237 (c_J7_fill l G fu r2 0 _ _ q) rfl (Nat.le_of_ble_eq_true rfl) ⟨⟨Nat.le_of_ble_eq_true rfl, Nat.le_of_ble_eq_true rfl⟩, Nat.le_of_ble_eq_true rfl, Nat.le_of_ble_eq_true rfl⟩ dX2_reset_13) (fun H locs hP hS => ?_)
  refine lv_aload_n hx hb dX2_reset_16 rfl (lv_at hl 0 rfl) ?_
  refine lv_iconst (v := 0) hx hb dX2_reset_17 (by decide) ?_
  obtain ⟨z, q, h⟩ := ho_bd h
  refine hw_pi X hP hS LX2 fX2_27 rfl rfl rfl q dX2_reset_18 (fun H locs hP hS => ?_)
  refine lv_aload_n hx hb dX2_reset_21 rfl (lv_at hl 0 rfl) ?_
  refine lv_iconst (v := 0) hx hb dX2_reset_22 (by decide) ?_
  obtain ⟨z, q, h⟩ := ho_bd h
  refine hw_pi X hP hS LX2 fX2_31 rfl rfl rfl q dX2_reset_23 (fun H locs hP hS => ?_)
  refine lv_aload_n hx hb dX2_reset_26 rfl (lv_at hl 0 rfl) ?_
  refine lv_iconst (v := 0) hx hb dX2_reset_27 (by decide) ?_
  obtain ⟨z, q, h⟩ := ho_bd h
  refine hw_pi X hP hS LX2 fX2_34 rfl rfl rfl q dX2_reset_28 (fun H locs hP hS => ?_)
  exact hw_vret X hP hS hr hlocks h dX2_reset_31
def f_X4_lastTime_B22 (fu : Nat) (a0 : Nat) (s0 : Int32) (z : hp_S) : Option (Int32 × hp_S) :=
  some (s0, z)
def f_X4_lastTime (fu : Nat) (a0 : Nat) (z : hp_S) : Option (Int32 × hp_S) :=
  (ho_gi 4 a0 3 z).bind fun v1 =>
  if v1 ≤ 0 then (
    f_X4_lastTime_B22 fu a0 (-1) z
  ) else (
    (ho_gr 4 a0 0 z).bind fun r2 =>
    (ho_gi 4 a0 3 z).bind fun v3 =>
    (ho_li 1 r2 (v3 - 1) z).bind fun v4 =>
    f_X4_lastTime_B22 fu a0 v4 z
  )
set_option maxHeartbeats 4000000 in
set_option maxRecDepth 100000 in
theorem c_X4_lastTime (l : Launch) (G : hp_G) (fu : Nat) (a0 : Nat) (z : hp_S) (rq : Int32) (zq : hp_S) (h : f_X4_lastTime fu a0 z = some (rq, zq)) : hp_M l G yX4_lastTime cX4_lastTime 1 (some .int) 0 0 0 0 [.ref a0] z (hp_Qi G rq zq) := by
  refine hp_M.of (by decide) (Nat.le_of_ble_eq_true rfl) ?_
  intro p e s m below meth c X hr hlocks hnm hP hS ls hl
  have X : hp_C G cX4_lastTime RX4 1 p s m c := X
  have hl : lv_has ls 1 [(0, .ref a0)] := hl
  have hx := X.1
  have hb := X.2.1
  have B22 : ∀ (s0 : Int32) (z : hp_S) (H : Heap) (locs : List Loc) (ls : Array Slot), f_X4_lastTime_B22 fu a0 s0 z = some (rq, zq) → hp_P G z H → va_S (hp_A G) s.heap H locs → lv_has ls 1 [(0, .ref a0)] → W p l e (hp_rm 0 0 0 0) s m [.ref a0].toArray below meth c H locs 0 0 (MQ below (hp_Qi G rq zq) [.ref a0].toArray s 0 0 (hp_A G)) (F0 m 22 ls [.int s0]) := by
    intro s0 z H locs ls h hP hS hl
    unfold f_X4_lastTime_B22 at h
    exact hw_iret X hP hS hr hlocks h dX4_lastTime_22
  unfold f_X4_lastTime at h
  refine lv_aload_n hx hb dX4_lastTime_0 rfl (lv_at hl 0 rfl) ?_
  obtain ⟨v1, q, h⟩ := ho_bd h
  refine hw_gi X hP LX4 fX4_28 rfl q dX4_lastTime_1 ?_
  refine lv_if_le (tgt := 21) hx hb dX4_lastTime_4 (by decide) (fun hc => ?_) (fun hc => ?_)
  · replace h := ho_ip hc h
    refine lv_iconst (v := (-1)) hx hb dX4_lastTime_21 (by decide) ?_
    exact B22 (-1) z _ _ _ h hP hS (lv_sub hl [0] rfl)
  · replace h := ho_in hc h
    refine lv_aload_n hx hb dX4_lastTime_7 rfl (lv_at hl 0 rfl) ?_
    obtain ⟨r2, q, h⟩ := ho_bd h
    refine hw_gr X hP LX4 fX4_9 rfl q dX4_lastTime_8 ?_
    refine lv_aload_n hx hb dX4_lastTime_11 rfl (lv_at hl 0 rfl) ?_
    obtain ⟨v3, q, h⟩ := ho_bd h
    refine hw_gi X hP LX4 fX4_28 rfl q dX4_lastTime_12 ?_
    refine lv_iconst (v := 1) hx hb dX4_lastTime_15 (by decide) ?_
    refine lv_isub hx hb dX4_lastTime_16 ?_
    obtain ⟨v4, q, h⟩ := ho_bd h
    refine hw_li X hP q dX4_lastTime_17 ?_
    refine lv_goto (tgt := 22) hx hb dX4_lastTime_18 (by decide) ?_
    exact B22 v4 z _ _ _ h hP hS (lv_sub hl [0] rfl)
def f_X5_gatherGrid_B81 (fu : Nat) (a0 : Nat) (a1 : Nat) (x2 : Int32) (z : hp_S) : Option hp_S :=
  some z
def f_X5_gatherGrid_L33 (fu : Nat) (a0 : Nat) (a1 : Nat) (x2 : Int32) (kk : hp_S → Option hp_S) : Nat → Int32 → Int32 → hp_S → Option hp_S
  | 0, _, _, _ => none
  | n + 1, w3, w4, z =>
    if w3 < w4 then (
      kk  z
    ) else (
      (ho_gi 5 a0 1 z).bind fun v1 =>
      (ho_gr 5 a0 0 z).bind fun r2 =>
      (ho_ln 1 r2 z).bind fun v3 =>
      if v3 ≤ v1 then (
        kk  z
      ) else (
        (ho_gr 5 a0 0 z).bind fun r4 =>
        (ho_gi 5 a0 1 z).bind fun v5 =>
        (ho_si r4 v5 w4 z).bind fun z =>
        (ho_gi 5 a0 1 z).bind fun v6 =>
        (ho_pi 5 a0 1 (v6 + 1) z).bind fun z =>
        (ho_id (w4 + x2)).bind fun v7 =>
        (f_X5_gatherGrid_L33 fu a0 a1 x2 kk n) w3 v7 z
      )
    )
def f_X5_gatherGrid_B30 (fu : Nat) (a0 : Nat) (a1 : Nat) (x2 : Int32) (w3 : Int32) (z : hp_S) : Option hp_S :=
  f_X5_gatherGrid_L33 fu a0 a1 x2 (f_X5_gatherGrid_B81 fu a0 a1 x2) fu w3 0 z
def f_X5_gatherGrid_L5 (fu : Nat) (a0 : Nat) (a1 : Nat) (x2 : Int32) (kk : Int32 → hp_S → Option hp_S) : Nat → Int32 → Int32 → hp_S → Option hp_S
  | 0, _, _, _ => none
  | n + 1, w3, w4, z =>
    (ho_ln (4 + 53) a1 z).bind fun v8 =>
    if v8 ≤ w4 then (
      kk w3 z
    ) else (
      (ho_lr 4 a1 w4 z).bind fun r9 =>
      (ho_is 4 r9 z).bind fun _ =>
      (f_X4_lastTime fu r9 z).bind fun ⟨v10, z⟩ =>
      (ho_id (if w3 < v10 then v10 else w3)).bind fun v11 =>
      (ho_id (w4 + 1)).bind fun v12 =>
      (f_X5_gatherGrid_L5 fu a0 a1 x2 kk n) v11 v12 z
    )
def f_X5_gatherGrid (fu : Nat) (a0 : Nat) (a1 : Nat) (x2 : Int32) (z : hp_S) : Option hp_S :=
  f_X5_gatherGrid_L5 fu a0 a1 x2 (f_X5_gatherGrid_B30 fu a0 a1 x2) fu (-1) 0 z
set_option maxHeartbeats 4000000 in
set_option maxRecDepth 100000 in
theorem c_X5_gatherGrid (l : Launch) (G : hp_G) (fu : Nat) (a0 : Nat) (a1 : Nat) (x2 : Int32) (z zq : hp_S) (h : f_X5_gatherGrid fu a0 a1 x2 z = some zq) : hp_M l G yX5_gatherGrid cX5_gatherGrid 5 none 1 21 0 0 [.ref a0, .ref a1, .int x2] z (hp_Qv G zq) := by
  refine hp_M.of (by decide) (Nat.le_of_ble_eq_true rfl) ?_
  intro p e s m below meth c X hr hlocks hnm hP hS ls hl
  have X : hp_C G cX5_gatherGrid RX5 5 p s m c := X
  have hl : lv_has ls 5 [(0, .ref a0), (1, .ref a1), (2, .int x2)] := hl
  have hx := X.1
  have hb := X.2.1
  have B81 : ∀ (z : hp_S) (H : Heap) (locs : List Loc) (ls : Array Slot), f_X5_gatherGrid_B81 fu a0 a1 x2 z = some zq → hp_P G z H → va_S (hp_A G) s.heap H locs → lv_has ls 5 [(0, .ref a0), (1, .ref a1), (2, .int x2)] → W p l e (hp_rm 1 21 0 0) s m [.ref a0, .ref a1, .int x2].toArray below meth c H locs 0 0 (MQ below (hp_Qv G zq) [.ref a0, .ref a1, .int x2].toArray s 0 0 (hp_A G)) (F0 m 81 ls []) := by
    intro z H locs ls h hP hS hl
    unfold f_X5_gatherGrid_B81 at h
    exact hw_vret X hP hS hr hlocks h dX5_gatherGrid_81
  have L33 : ∀ (n33 : Nat) (w3 : Int32) (w4 : Int32) (z : hp_S) (H : Heap) (locs : List Loc) (ls : Array Slot), f_X5_gatherGrid_L33 fu a0 a1 x2 (f_X5_gatherGrid_B81 fu a0 a1 x2) n33 w3 w4 z = some zq → hp_P G z H → va_S (hp_A G) s.heap H locs → lv_has ls 5 [(0, .ref a0), (1, .ref a1), (2, .int x2), (3, .int w3), (4, .int w4)] → W p l e (hp_rm 1 21 0 0) s m [.ref a0, .ref a1, .int x2].toArray below meth c H locs 0 0 (MQ below (hp_Qv G zq) [.ref a0, .ref a1, .int x2].toArray s 0 0 (hp_A G)) (F0 m 33 ls []) := by
    intro n33
    induction n33 with
    | zero =>
      intro w3 w4 z H locs ls h
      exact nomatch (h : (none : Option hp_S) = some zq)
    | succ n33 ih33 =>
      intro w3 w4 z H locs ls h hP hS hl
      rw [f_X5_gatherGrid_L33] at h
      refine lv_iload hx hb dX5_gatherGrid_33 (lv_at hl 4 rfl) ?_
      refine lv_iload_n hx hb dX5_gatherGrid_35 rfl (lv_at hl 3 rfl) ?_
      refine lv_icmp_gt (tgt := 81) hx hb dX5_gatherGrid_36 (by decide) (fun hc => ?_) (fun hc => ?_)
      · replace h := ho_ip hc h
        exact B81 z _ _ _ h hP hS (lv_sub hl [0, 1, 2] rfl)
      · replace h := ho_in hc h
        refine lv_aload_n hx hb dX5_gatherGrid_39 rfl (lv_at hl 0 rfl) ?_
        obtain ⟨v1, q, h⟩ := ho_bd h
        refine hw_gi X hP LX5 fX5_18 rfl q dX5_gatherGrid_40 ?_
        refine lv_aload_n hx hb dX5_gatherGrid_43 rfl (lv_at hl 0 rfl) ?_
        obtain ⟨r2, q, h⟩ := ho_bd h
        refine hw_gr X hP LX5 fX5_9 rfl q dX5_gatherGrid_44 ?_
        obtain ⟨v3, q, h⟩ := ho_bd h
        refine hw_ln (t0 := 0) X hP (by decide) (by decide) rfl q dX5_gatherGrid_47 ?_
        refine lv_icmp_ge (tgt := 81) hx hb dX5_gatherGrid_48 (by decide) (fun hc => ?_) (fun hc => ?_)
        · replace h := ho_ip hc h
          exact B81 z _ _ _ h hP hS (lv_sub hl [0, 1, 2] rfl)
        · replace h := ho_in hc h
          refine lv_aload_n hx hb dX5_gatherGrid_51 rfl (lv_at hl 0 rfl) ?_
          obtain ⟨r4, q, h⟩ := ho_bd h
          refine hw_gr X hP LX5 fX5_9 rfl q dX5_gatherGrid_52 ?_
          refine lv_aload_n hx hb dX5_gatherGrid_55 rfl (lv_at hl 0 rfl) ?_
          obtain ⟨v5, q, h⟩ := ho_bd h
          refine hw_gi X hP LX5 fX5_18 rfl q dX5_gatherGrid_56 ?_
          refine lv_iload hx hb dX5_gatherGrid_59 (lv_at hl 4 rfl) ?_
          obtain ⟨z, q, h⟩ := ho_bd h
          refine hw_si X hP hS q dX5_gatherGrid_61 (fun H locs hP hS => ?_)
          refine lv_aload_n hx hb dX5_gatherGrid_62 rfl (lv_at hl 0 rfl) ?_
          refine lv_dup hx hb dX5_gatherGrid_63 rfl ?_
          obtain ⟨v6, q, h⟩ := ho_bd h
          refine hw_gi X hP LX5 fX5_18 rfl q dX5_gatherGrid_64 ?_
          refine lv_iconst (v := 1) hx hb dX5_gatherGrid_67 (by decide) ?_
          refine lv_iadd hx hb dX5_gatherGrid_68 ?_
          obtain ⟨z, q, h⟩ := ho_bd h
          refine hw_pi X hP hS LX5 fX5_18 rfl rfl rfl q dX5_gatherGrid_69 (fun H locs hP hS => ?_)
          refine lv_iload hx hb dX5_gatherGrid_72 (lv_at hl 4 rfl) ?_
          refine lv_iload_n hx hb dX5_gatherGrid_74 rfl (lv_at hl 2 rfl) ?_
          refine lv_iadd hx hb dX5_gatherGrid_75 ?_
          obtain ⟨v7, q, h⟩ := ho_bd h
          refine hw_id q ?_
          refine lv_istore (lv' := [(4, .int v7), (0, .ref a0), (1, .ref a1), (2, .int x2), (3, .int w3)]) hx hb dX5_gatherGrid_76 hl (by decide) rfl (fun ls hl => ?_)
          refine lv_goto (tgt := 33) hx hb dX5_gatherGrid_78 (by decide) ?_
          exact ih33 w3 v7 z _ _ _ h hP hS (lv_sub hl [1, 2, 3, 4, 0] rfl)
  have B30 : ∀ (w3 : Int32) (z : hp_S) (H : Heap) (locs : List Loc) (ls : Array Slot), f_X5_gatherGrid_B30 fu a0 a1 x2 w3 z = some zq → hp_P G z H → va_S (hp_A G) s.heap H locs → lv_has ls 5 [(0, .ref a0), (1, .ref a1), (2, .int x2), (3, .int w3)] → W p l e (hp_rm 1 21 0 0) s m [.ref a0, .ref a1, .int x2].toArray below meth c H locs 0 0 (MQ below (hp_Qv G zq) [.ref a0, .ref a1, .int x2].toArray s 0 0 (hp_A G)) (F0 m 30 ls []) := by
    intro w3 z H locs ls h hP hS hl
    unfold f_X5_gatherGrid_B30 at h
    refine lv_iconst (v := 0) hx hb dX5_gatherGrid_30 (by decide) ?_
    refine lv_istore (lv' := [(4, .int 0), (0, .ref a0), (1, .ref a1), (2, .int x2), (3, .int w3)]) hx hb dX5_gatherGrid_31 hl (by decide) rfl (fun ls hl => ?_)
    exact L33 fu w3 0 z _ _ _ h hP hS (lv_sub hl [1, 2, 3, 4, 0] rfl)
  have L5 : ∀ (n5 : Nat) (w3 : Int32) (w4 : Int32) (z : hp_S) (H : Heap) (locs : List Loc) (ls : Array Slot), f_X5_gatherGrid_L5 fu a0 a1 x2 (f_X5_gatherGrid_B30 fu a0 a1 x2) n5 w3 w4 z = some zq → hp_P G z H → va_S (hp_A G) s.heap H locs → lv_has ls 5 [(0, .ref a0), (1, .ref a1), (2, .int x2), (3, .int w3), (4, .int w4)] → W p l e (hp_rm 1 21 0 0) s m [.ref a0, .ref a1, .int x2].toArray below meth c H locs 0 0 (MQ below (hp_Qv G zq) [.ref a0, .ref a1, .int x2].toArray s 0 0 (hp_A G)) (F0 m 5 ls []) := by
    intro n5
    induction n5 with
    | zero =>
      intro w3 w4 z H locs ls h
      exact nomatch (h : (none : Option hp_S) = some zq)
    | succ n5 ih5 =>
      intro w3 w4 z H locs ls h hP hS hl
      rw [f_X5_gatherGrid_L5] at h
      refine lv_iload hx hb dX5_gatherGrid_5 (lv_at hl 4 rfl) ?_
      refine lv_aload_n hx hb dX5_gatherGrid_7 rfl (lv_at hl 1 rfl) ?_
      obtain ⟨v8, q, h⟩ := ho_bd h
      refine hw_lnr (t0 := 2) X hP rfl q dX5_gatherGrid_8 ?_
      refine lv_icmp_ge (tgt := 30) hx hb dX5_gatherGrid_9 (by decide) (fun hc => ?_) (fun hc => ?_)
      · replace h := ho_ip hc h
        exact B30 w3 z _ _ _ h hP hS (lv_sub hl [0, 1, 2, 3] rfl)
      · replace h := ho_in hc h
        refine lv_iload_n hx hb dX5_gatherGrid_12 rfl (lv_at hl 3 rfl) ?_
        refine lv_aload_n hx hb dX5_gatherGrid_13 rfl (lv_at hl 1 rfl) ?_
        refine lv_iload hx hb dX5_gatherGrid_14 (lv_at hl 4 rfl) ?_
        obtain ⟨r9, q, h⟩ := ho_bd h
        refine hw_lr (t0 := 2) X hP rfl q dX5_gatherGrid_16 ?_
        obtain ⟨_, hs, h⟩ := ho_bd h
        obtain ⟨⟨v10, z⟩, q, h⟩ := ho_bd h
        refine hw_ci hS (hp_runV (As := []) (rest := [.int w3]) X hP hS hl.1 LX4 (ho_is_s hs) kX5_30 ⟨m2_8, m2_9⟩ (c_X4_lastTime l G fu r9 _ _ _ q) rfl (Nat.le_of_ble_eq_true rfl) ⟨⟨Nat.le_of_ble_eq_true rfl, Nat.le_of_ble_eq_true rfl⟩, Nat.le_of_ble_eq_true rfl, Nat.le_of_ble_eq_true rfl⟩ dX5_gatherGrid_17) (fun H locs hP hS => ?_)
        refine va_mmax hx hb (X.2.2.2.1.trans hl.1.symm) X.2.2.1 (hp_use X.2.2.2.2.1 m2_11 _) (hp_use X.2.2.2.2.1 m1_25 _) (hp_use X.2.2.2.2.1 m1_2 _) (hp_use X.2.2.2.2.1 m1_26 _) (Nat.le_of_ble_eq_true rfl) (Nat.le_of_ble_eq_true rfl) (Nat.zero_le _) (Nat.zero_le _) dX5_gatherGrid_20 ?_
        obtain ⟨v11, q, h⟩ := ho_bd h
        refine hw_id q ?_
        refine lv_istore_n (lv' := [(3, .int v11), (0, .ref a0), (1, .ref a1), (2, .int x2), (4, .int w4)]) hx hb dX5_gatherGrid_23 rfl hl (by decide) rfl (fun ls hl => ?_)
        obtain ⟨v12, q, h⟩ := ho_bd h
        refine lv_iinc (v := v12) (lv' := [(4, .int v12), (3, .int v11), (0, .ref a0), (1, .ref a1), (2, .int x2)]) hx hb dX5_gatherGrid_24 hl (k := 4) rfl (Option.some.inj q) (by decide) rfl (fun ls hl => ?_)
        refine lv_goto (tgt := 5) hx hb dX5_gatherGrid_27 (by decide) ?_
        exact ih5 v11 v12 z _ _ _ h hP hS (lv_sub hl [2, 3, 4, 1, 0] rfl)
  unfold f_X5_gatherGrid at h
  refine lv_iconst (v := (-1)) hx hb dX5_gatherGrid_0 (by decide) ?_
  refine lv_istore_n (lv' := [(3, .int (-1)), (0, .ref a0), (1, .ref a1), (2, .int x2)]) hx hb dX5_gatherGrid_1 rfl hl (by decide) rfl (fun ls hl => ?_)
  refine lv_iconst (v := 0) hx hb dX5_gatherGrid_2 (by decide) ?_
  refine lv_istore (lv' := [(4, .int 0), (3, .int (-1)), (0, .ref a0), (1, .ref a1), (2, .int x2)]) hx hb dX5_gatherGrid_3 hl (by decide) rfl (fun ls hl => ?_)
  exact L5 fu (-1) 0 z _ _ _ h hP hS (lv_sub hl [2, 3, 4, 1, 0] rfl)
def f_X5_earliestHead_B51 (fu : Nat) (a0 : Nat) (a1 : Nat) (w2 : Int32) (z : hp_S) : Option (Int32 × hp_S) :=
  some (w2, z)
def f_X5_earliestHead_B45 (fu : Nat) (a0 : Nat) (a1 : Nat) (ag : Int32 → Int32 → hp_S → Option (Int32 × hp_S)) (kk : Int32 → hp_S → Option (Int32 × hp_S)) (w2 : Int32) (w3 : Int32) (z : hp_S) : Option (Int32 × hp_S) :=
  (ho_id (w3 + 1)).bind fun v6 =>
  ag w2 v6 z
def f_X5_earliestHead_L6 (fu : Nat) (a0 : Nat) (a1 : Nat) (kk : Int32 → hp_S → Option (Int32 × hp_S)) : Nat → Int32 → Int32 → hp_S → Option (Int32 × hp_S)
  | 0, _, _, _ => none
  | n + 1, w2, w3, z =>
    (ho_ln (4 + 53) a1 z).bind fun v1 =>
    if v1 ≤ w3 then (
      kk w2 z
    ) else (
      (ho_gr 5 a0 2 z).bind fun r2 =>
      (ho_li 1 r2 w3 z).bind fun v3 =>
      (ho_lr 4 a1 w3 z).bind fun r4 =>
      (ho_gi 4 r4 3 z).bind fun v5 =>
      if v5 ≤ v3 then (
        f_X5_earliestHead_B45 fu a0 a1 (f_X5_earliestHead_L6 fu a0 a1 kk n) kk w2 w3 z
      ) else (
        (ho_lr 4 a1 w3 z).bind fun r7 =>
        (ho_gr 4 r7 0 z).bind fun r8 =>
        (ho_gr 5 a0 2 z).bind fun r9 =>
        (ho_li 1 r9 w3 z).bind fun v10 =>
        (ho_li 1 r8 v10 z).bind fun v11 =>
        (ho_id (if v11 < w2 then v11 else w2)).bind fun v12 =>
        f_X5_earliestHead_B45 fu a0 a1 (f_X5_earliestHead_L6 fu a0 a1 kk n) kk v12 w3 z
      )
    )
def f_X5_earliestHead (fu : Nat) (a0 : Nat) (a1 : Nat) (z : hp_S) : Option (Int32 × hp_S) :=
  f_X5_earliestHead_L6 fu a0 a1 (f_X5_earliestHead_B51 fu a0 a1) fu 1000 0 z
set_option maxHeartbeats 4000000 in
set_option maxRecDepth 100000 in
theorem c_X5_earliestHead (l : Launch) (G : hp_G) (fu : Nat) (a0 : Nat) (a1 : Nat) (z : hp_S) (rq : Int32) (zq : hp_S) (h : f_X5_earliestHead fu a0 a1 z = some (rq, zq)) : hp_M l G yX5_earliestHead cX5_earliestHead 4 (some .int) 1 21 0 0 [.ref a0, .ref a1] z (hp_Qi G rq zq) := by
  refine hp_M.of (by decide) (Nat.le_of_ble_eq_true rfl) ?_
  intro p e s m below meth c X hr hlocks hnm hP hS ls hl
  have X : hp_C G cX5_earliestHead RX5 4 p s m c := X
  have hl : lv_has ls 4 [(0, .ref a0), (1, .ref a1)] := hl
  have hx := X.1
  have hb := X.2.1
  have B51 : ∀ (w2 : Int32) (z : hp_S) (H : Heap) (locs : List Loc) (ls : Array Slot), f_X5_earliestHead_B51 fu a0 a1 w2 z = some (rq, zq) → hp_P G z H → va_S (hp_A G) s.heap H locs → lv_has ls 4 [(0, .ref a0), (1, .ref a1), (2, .int w2)] → W p l e (hp_rm 1 21 0 0) s m [.ref a0, .ref a1].toArray below meth c H locs 0 0 (MQ below (hp_Qi G rq zq) [.ref a0, .ref a1].toArray s 0 0 (hp_A G)) (F0 m 51 ls []) := by
    intro w2 z H locs ls h hP hS hl
    unfold f_X5_earliestHead_B51 at h
    refine lv_iload_n hx hb dX5_earliestHead_51 rfl (lv_at hl 2 rfl) ?_
    exact hw_iret X hP hS hr hlocks h dX5_earliestHead_52
  have L6 : ∀ (n6 : Nat) (w2 : Int32) (w3 : Int32) (z : hp_S) (H : Heap) (locs : List Loc) (ls : Array Slot), f_X5_earliestHead_L6 fu a0 a1 (f_X5_earliestHead_B51 fu a0 a1) n6 w2 w3 z = some (rq, zq) → hp_P G z H → va_S (hp_A G) s.heap H locs → lv_has ls 4 [(0, .ref a0), (1, .ref a1), (2, .int w2), (3, .int w3)] → W p l e (hp_rm 1 21 0 0) s m [.ref a0, .ref a1].toArray below meth c H locs 0 0 (MQ below (hp_Qi G rq zq) [.ref a0, .ref a1].toArray s 0 0 (hp_A G)) (F0 m 6 ls []) := by
    intro n6
    induction n6 with
    | zero =>
      intro w2 w3 z H locs ls h
      exact nomatch (h : (none : Option (Int32 × hp_S)) = some (rq, zq))
    | succ n6 ih6 =>
      have B45 : ∀ (w2 : Int32) (w3 : Int32) (z : hp_S) (H : Heap) (locs : List Loc) (ls : Array Slot), f_X5_earliestHead_B45 fu a0 a1 (f_X5_earliestHead_L6 fu a0 a1 (f_X5_earliestHead_B51 fu a0 a1) n6) (f_X5_earliestHead_B51 fu a0 a1) w2 w3 z = some (rq, zq) → hp_P G z H → va_S (hp_A G) s.heap H locs → lv_has ls 4 [(0, .ref a0), (1, .ref a1), (2, .int w2), (3, .int w3)] → W p l e (hp_rm 1 21 0 0) s m [.ref a0, .ref a1].toArray below meth c H locs 0 0 (MQ below (hp_Qi G rq zq) [.ref a0, .ref a1].toArray s 0 0 (hp_A G)) (F0 m 45 ls []) := by
        intro w2 w3 z H locs ls h hP hS hl
        unfold f_X5_earliestHead_B45 at h
        obtain ⟨v6, q, h⟩ := ho_bd h
        refine lv_iinc (v := v6) (lv' := [(3, .int v6), (0, .ref a0), (1, .ref a1), (2, .int w2)]) hx hb dX5_earliestHead_45 hl (k := 3) rfl (Option.some.inj q) (by decide) rfl (fun ls hl => ?_)
        refine lv_goto (tgt := 6) hx hb dX5_earliestHead_48 (by decide) ?_
        exact ih6 w2 v6 z _ _ _ h hP hS (lv_sub hl [1, 2, 3, 0] rfl)
      intro w2 w3 z H locs ls h hP hS hl
      rw [f_X5_earliestHead_L6] at h
      refine lv_iload_n hx hb dX5_earliestHead_6 rfl (lv_at hl 3 rfl) ?_
      refine lv_aload_n hx hb dX5_earliestHead_7 rfl (lv_at hl 1 rfl) ?_
      obtain ⟨v1, q, h⟩ := ho_bd h
      refine hw_lnr (t0 := 2) X hP rfl q dX5_earliestHead_8 ?_
      refine lv_icmp_ge (tgt := 51) hx hb dX5_earliestHead_9 (by decide) (fun hc => ?_) (fun hc => ?_)
      · replace h := ho_ip hc h
        exact B51 w2 z _ _ _ h hP hS (lv_sub hl [0, 1, 2] rfl)
      · replace h := ho_in hc h
        refine lv_aload_n hx hb dX5_earliestHead_12 rfl (lv_at hl 0 rfl) ?_
        obtain ⟨r2, q, h⟩ := ho_bd h
        refine hw_gr X hP LX5 fX5_15 rfl q dX5_earliestHead_13 ?_
        refine lv_iload_n hx hb dX5_earliestHead_16 rfl (lv_at hl 3 rfl) ?_
        obtain ⟨v3, q, h⟩ := ho_bd h
        refine hw_li X hP q dX5_earliestHead_17 ?_
        refine lv_aload_n hx hb dX5_earliestHead_18 rfl (lv_at hl 1 rfl) ?_
        refine lv_iload_n hx hb dX5_earliestHead_19 rfl (lv_at hl 3 rfl) ?_
        obtain ⟨r4, q, h⟩ := ho_bd h
        refine hw_lr (t0 := 2) X hP rfl q dX5_earliestHead_20 ?_
        obtain ⟨v5, q, h⟩ := ho_bd h
        refine hw_gi X hP LX4 fX5_55 rfl q dX5_earliestHead_21 ?_
        refine lv_icmp_ge (tgt := 45) hx hb dX5_earliestHead_24 (by decide) (fun hc => ?_) (fun hc => ?_)
        · replace h := ho_ip hc h
          exact B45 w2 w3 z _ _ _ h hP hS (lv_sub hl [0, 1, 2, 3] rfl)
        · replace h := ho_in hc h
          refine lv_iload_n hx hb dX5_earliestHead_27 rfl (lv_at hl 2 rfl) ?_
          refine lv_aload_n hx hb dX5_earliestHead_28 rfl (lv_at hl 1 rfl) ?_
          refine lv_iload_n hx hb dX5_earliestHead_29 rfl (lv_at hl 3 rfl) ?_
          obtain ⟨r7, q, h⟩ := ho_bd h
          refine hw_lr (t0 := 2) X hP rfl q dX5_earliestHead_30 ?_
          obtain ⟨r8, q, h⟩ := ho_bd h
          refine hw_gr X hP LX4 fX5_56 rfl q dX5_earliestHead_31 ?_
          refine lv_aload_n hx hb dX5_earliestHead_34 rfl (lv_at hl 0 rfl) ?_
          obtain ⟨r9, q, h⟩ := ho_bd h
          refine hw_gr X hP LX5 fX5_15 rfl q dX5_earliestHead_35 ?_
          refine lv_iload_n hx hb dX5_earliestHead_38 rfl (lv_at hl 3 rfl) ?_
          obtain ⟨v10, q, h⟩ := ho_bd h
          refine hw_li X hP q dX5_earliestHead_39 ?_
          obtain ⟨v11, q, h⟩ := ho_bd h
          refine hw_li X hP q dX5_earliestHead_40 ?_
          refine va_mmin hx hb (X.2.2.2.1.trans hl.1.symm) X.2.2.1 (hp_use X.2.2.2.2.1 m2_21 _) (hp_use X.2.2.2.2.1 m1_22 _) (hp_use X.2.2.2.2.1 m1_2 _) (hp_use X.2.2.2.2.1 m1_23 _) (Nat.le_of_ble_eq_true rfl) (Nat.le_of_ble_eq_true rfl) (Nat.zero_le _) (Nat.zero_le _) dX5_earliestHead_41 ?_
          obtain ⟨v12, q, h⟩ := ho_bd h
          refine hw_id q ?_
          refine lv_istore_n (lv' := [(2, .int v12), (0, .ref a0), (1, .ref a1), (3, .int w3)]) hx hb dX5_earliestHead_44 rfl hl (by decide) rfl (fun ls hl => ?_)
          exact B45 v12 w3 z _ _ _ h hP hS (lv_sub hl [1, 2, 0, 3] rfl)
  unfold f_X5_earliestHead at h
  refine lv_sipush (v := 1000) hx hb dX5_earliestHead_0 (by decide) ?_
  refine lv_istore_n (lv' := [(2, .int 1000), (0, .ref a0), (1, .ref a1)]) hx hb dX5_earliestHead_3 rfl hl (by decide) rfl (fun ls hl => ?_)
  refine lv_iconst (v := 0) hx hb dX5_earliestHead_4 (by decide) ?_
  refine lv_istore_n (lv' := [(3, .int 0), (2, .int 1000), (0, .ref a0), (1, .ref a1)]) hx hb dX5_earliestHead_5 rfl hl (by decide) rfl (fun ls hl => ?_)
  exact L6 fu 1000 0 z _ _ _ h hP hS (lv_sub hl [2, 3, 1, 0] rfl)
def f_X5_passHeads_B56 (fu : Nat) (a0 : Nat) (a1 : Nat) (x2 : Int32) (z : hp_S) : Option hp_S :=
  some z
def f_X5_passHeads_B50 (fu : Nat) (a0 : Nat) (a1 : Nat) (x2 : Int32) (ag : Int32 → hp_S → Option hp_S) (kk : hp_S → Option hp_S) (w3 : Int32) (z : hp_S) : Option hp_S :=
  (ho_id (w3 + 1)).bind fun v6 =>
  ag v6 z
def f_X5_passHeads_L2 (fu : Nat) (a0 : Nat) (a1 : Nat) (x2 : Int32) (kk : hp_S → Option hp_S) : Nat → Int32 → hp_S → Option hp_S
  | 0, _, _ => none
  | n + 1, w3, z =>
    (ho_ln (4 + 53) a1 z).bind fun v1 =>
    if v1 ≤ w3 then (
      kk  z
    ) else (
      (ho_gr 5 a0 2 z).bind fun r2 =>
      (ho_li 1 r2 w3 z).bind fun v3 =>
      (ho_lr 4 a1 w3 z).bind fun r4 =>
      (ho_gi 4 r4 3 z).bind fun v5 =>
      if v5 ≤ v3 then (
        f_X5_passHeads_B50 fu a0 a1 x2 (f_X5_passHeads_L2 fu a0 a1 x2 kk n) kk w3 z
      ) else (
        (ho_lr 4 a1 w3 z).bind fun r7 =>
        (ho_gr 4 r7 0 z).bind fun r8 =>
        (ho_li 1 r8 v3 z).bind fun v9 =>
        if v9 = x2 then (
          (ho_gr 5 a0 2 z).bind fun r10 =>
          (ho_li 1 r10 w3 z).bind fun v11 =>
          (ho_si r10 w3 (v11 + 1) z).bind fun z =>
          f_X5_passHeads_B50 fu a0 a1 x2 (f_X5_passHeads_L2 fu a0 a1 x2 kk n) kk w3 z
        ) else (
          f_X5_passHeads_B50 fu a0 a1 x2 (f_X5_passHeads_L2 fu a0 a1 x2 kk n) kk w3 z
        )
      )
    )
def f_X5_passHeads (fu : Nat) (a0 : Nat) (a1 : Nat) (x2 : Int32) (z : hp_S) : Option hp_S :=
  f_X5_passHeads_L2 fu a0 a1 x2 (f_X5_passHeads_B56 fu a0 a1 x2) fu 0 z
set_option maxHeartbeats 4000000 in
set_option maxRecDepth 100000 in
theorem c_X5_passHeads (l : Launch) (G : hp_G) (fu : Nat) (a0 : Nat) (a1 : Nat) (x2 : Int32) (z zq : hp_S) (h : f_X5_passHeads fu a0 a1 x2 z = some zq) : hp_M l G yX5_passHeads cX5_passHeads 5 none 0 0 0 0 [.ref a0, .ref a1, .int x2] z (hp_Qv G zq) := by
  refine hp_M.of (by decide) (Nat.le_of_ble_eq_true rfl) ?_
  intro p e s m below meth c X hr hlocks hnm hP hS ls hl
  have X : hp_C G cX5_passHeads RX5 5 p s m c := X
  have hl : lv_has ls 5 [(0, .ref a0), (1, .ref a1), (2, .int x2)] := hl
  have hx := X.1
  have hb := X.2.1
  have B56 : ∀ (z : hp_S) (H : Heap) (locs : List Loc) (ls : Array Slot), f_X5_passHeads_B56 fu a0 a1 x2 z = some zq → hp_P G z H → va_S (hp_A G) s.heap H locs → lv_has ls 5 [(0, .ref a0), (1, .ref a1), (2, .int x2)] → W p l e (hp_rm 0 0 0 0) s m [.ref a0, .ref a1, .int x2].toArray below meth c H locs 0 0 (MQ below (hp_Qv G zq) [.ref a0, .ref a1, .int x2].toArray s 0 0 (hp_A G)) (F0 m 56 ls []) := by
    intro z H locs ls h hP hS hl
    unfold f_X5_passHeads_B56 at h
    exact hw_vret X hP hS hr hlocks h dX5_passHeads_56
  have L2 : ∀ (n2 : Nat) (w3 : Int32) (z : hp_S) (H : Heap) (locs : List Loc) (ls : Array Slot), f_X5_passHeads_L2 fu a0 a1 x2 (f_X5_passHeads_B56 fu a0 a1 x2) n2 w3 z = some zq → hp_P G z H → va_S (hp_A G) s.heap H locs → lv_has ls 5 [(0, .ref a0), (1, .ref a1), (2, .int x2), (3, .int w3)] → W p l e (hp_rm 0 0 0 0) s m [.ref a0, .ref a1, .int x2].toArray below meth c H locs 0 0 (MQ below (hp_Qv G zq) [.ref a0, .ref a1, .int x2].toArray s 0 0 (hp_A G)) (F0 m 2 ls []) := by
    intro n2
    induction n2 with
    | zero =>
      intro w3 z H locs ls h
      exact nomatch (h : (none : Option hp_S) = some zq)
    | succ n2 ih2 =>
      have B50 : ∀ (w3 : Int32) (z : hp_S) (H : Heap) (locs : List Loc) (ls : Array Slot), f_X5_passHeads_B50 fu a0 a1 x2 (f_X5_passHeads_L2 fu a0 a1 x2 (f_X5_passHeads_B56 fu a0 a1 x2) n2) (f_X5_passHeads_B56 fu a0 a1 x2) w3 z = some zq → hp_P G z H → va_S (hp_A G) s.heap H locs → lv_has ls 5 [(0, .ref a0), (1, .ref a1), (2, .int x2), (3, .int w3)] → W p l e (hp_rm 0 0 0 0) s m [.ref a0, .ref a1, .int x2].toArray below meth c H locs 0 0 (MQ below (hp_Qv G zq) [.ref a0, .ref a1, .int x2].toArray s 0 0 (hp_A G)) (F0 m 50 ls []) := by
        intro w3 z H locs ls h hP hS hl
        unfold f_X5_passHeads_B50 at h
        obtain ⟨v6, q, h⟩ := ho_bd h
        refine lv_iinc (v := v6) (lv' := [(3, .int v6), (0, .ref a0), (1, .ref a1), (2, .int x2)]) hx hb dX5_passHeads_50 hl (k := 3) rfl (Option.some.inj q) (by decide) rfl (fun ls hl => ?_)
        refine lv_goto (tgt := 2) hx hb dX5_passHeads_53 (by decide) ?_
        exact ih2 v6 z _ _ _ h hP hS (lv_sub hl [1, 2, 3, 0] rfl)
      intro w3 z H locs ls h hP hS hl
      rw [f_X5_passHeads_L2] at h
      refine lv_iload_n hx hb dX5_passHeads_2 rfl (lv_at hl 3 rfl) ?_
      refine lv_aload_n hx hb dX5_passHeads_3 rfl (lv_at hl 1 rfl) ?_
      obtain ⟨v1, q, h⟩ := ho_bd h
      refine hw_lnr (t0 := 2) X hP rfl q dX5_passHeads_4 ?_
      refine lv_icmp_ge (tgt := 56) hx hb dX5_passHeads_5 (by decide) (fun hc => ?_) (fun hc => ?_)
      · replace h := ho_ip hc h
        exact B56 z _ _ _ h hP hS (lv_sub hl [0, 1, 2] rfl)
      · replace h := ho_in hc h
        refine lv_aload_n hx hb dX5_passHeads_8 rfl (lv_at hl 0 rfl) ?_
        obtain ⟨r2, q, h⟩ := ho_bd h
        refine hw_gr X hP LX5 fX5_15 rfl q dX5_passHeads_9 ?_
        refine lv_iload_n hx hb dX5_passHeads_12 rfl (lv_at hl 3 rfl) ?_
        obtain ⟨v3, q, h⟩ := ho_bd h
        refine hw_li X hP q dX5_passHeads_13 ?_
        refine lv_istore (lv' := [(4, .int v3), (0, .ref a0), (1, .ref a1), (2, .int x2), (3, .int w3)]) hx hb dX5_passHeads_14 hl (by decide) rfl (fun ls hl => ?_)
        refine lv_iload hx hb dX5_passHeads_16 (lv_at hl 0 rfl) ?_
        refine lv_aload_n hx hb dX5_passHeads_18 rfl (lv_at hl 2 rfl) ?_
        refine lv_iload_n hx hb dX5_passHeads_19 rfl (lv_at hl 4 rfl) ?_
        obtain ⟨r4, q, h⟩ := ho_bd h
        refine hw_lr (t0 := 2) X hP rfl q dX5_passHeads_20 ?_
        obtain ⟨v5, q, h⟩ := ho_bd h
        refine hw_gi X hP LX4 fX5_55 rfl q dX5_passHeads_21 ?_
        refine lv_icmp_ge (tgt := 50) hx hb dX5_passHeads_24 (by decide) (fun hc => ?_) (fun hc => ?_)
        · replace h := ho_ip hc h
          exact B50 w3 z _ _ _ h hP hS (lv_sub hl [1, 2, 3, 4] rfl)
        · replace h := ho_in hc h
          refine lv_aload_n hx hb dX5_passHeads_27 rfl (lv_at hl 2 rfl) ?_
          refine lv_iload_n hx hb dX5_passHeads_28 rfl (lv_at hl 4 rfl) ?_
          obtain ⟨r7, q, h⟩ := ho_bd h
          refine hw_lr (t0 := 2) X hP rfl q dX5_passHeads_29 ?_
          obtain ⟨r8, q, h⟩ := ho_bd h
          refine hw_gr X hP LX4 fX5_56 rfl q dX5_passHeads_30 ?_
          refine lv_iload hx hb dX5_passHeads_33 (lv_at hl 0 rfl) ?_
          obtain ⟨v9, q, h⟩ := ho_bd h
          refine hw_li X hP q dX5_passHeads_35 ?_
          refine lv_iload_n hx hb dX5_passHeads_36 rfl (lv_at hl 3 rfl) ?_
          refine lv_icmp_ne (tgt := 50) hx hb dX5_passHeads_37 (by decide) (fun hc => ?_) (fun hc => ?_)
          · replace h := ho_in hc h
            exact B50 w3 z _ _ _ h hP hS (lv_sub hl [1, 2, 3, 4] rfl)
          · replace h := ho_ip hc h
            refine lv_aload_n hx hb dX5_passHeads_40 rfl (lv_at hl 1 rfl) ?_
            obtain ⟨r10, q, h⟩ := ho_bd h
            refine hw_gr X hP LX5 fX5_15 rfl q dX5_passHeads_41 ?_
            refine lv_iload_n hx hb dX5_passHeads_44 rfl (lv_at hl 4 rfl) ?_
            refine lv_dup2_11 hx hb dX5_passHeads_45 rfl rfl ?_
            obtain ⟨v11, q, h⟩ := ho_bd h
            refine hw_li X hP q dX5_passHeads_46 ?_
            refine lv_iconst (v := 1) hx hb dX5_passHeads_47 (by decide) ?_
            refine lv_iadd hx hb dX5_passHeads_48 ?_
            obtain ⟨z, q, h⟩ := ho_bd h
            refine hw_si X hP hS q dX5_passHeads_49 (fun H locs hP hS => ?_)
            exact B50 w3 z _ _ _ h hP hS (lv_sub hl [1, 2, 3, 4] rfl)
  unfold f_X5_passHeads at h
  refine lv_iconst (v := 0) hx hb dX5_passHeads_0 (by decide) ?_
  refine lv_istore_n (lv' := [(3, .int 0), (0, .ref a0), (1, .ref a1), (2, .int x2)]) hx hb dX5_passHeads_1 rfl hl (by decide) rfl (fun ls hl => ?_)
  exact L2 fu 0 z _ _ _ h hP hS (lv_sub hl [1, 2, 3, 0] rfl)
def f_X5_gatherEvents_B68 (fu : Nat) (a0 : Nat) (a1 : Nat) (z : hp_S) : Option hp_S :=
  some z
def f_X5_gatherEvents_L14 (fu : Nat) (a0 : Nat) (a1 : Nat) (kk : hp_S → Option hp_S) : Nat → Int32 → hp_S → Option hp_S
  | 0, _, _ => none
  | n + 1, w2, z =>
    if 999 < w2 then (
      kk  z
    ) else (
      (ho_gi 5 a0 1 z).bind fun v3 =>
      (ho_gr 5 a0 0 z).bind fun r4 =>
      (ho_ln 1 r4 z).bind fun v5 =>
      if v5 ≤ v3 then (
        kk  z
      ) else (
        (ho_gr 5 a0 0 z).bind fun r6 =>
        (ho_gi 5 a0 1 z).bind fun v7 =>
        (ho_si r6 v7 w2 z).bind fun z =>
        (ho_gi 5 a0 1 z).bind fun v8 =>
        (ho_pi 5 a0 1 (v8 + 1) z).bind fun z =>
        (ho_is 5 a0 z).bind fun _ =>
        (f_X5_passHeads fu a0 a1 w2 z).bind fun z =>
        (ho_is 5 a0 z).bind fun _ =>
        (f_X5_earliestHead fu a0 a1 z).bind fun ⟨v9, z⟩ =>
        (f_X5_gatherEvents_L14 fu a0 a1 kk n) v9 z
      )
    )
def f_X5_gatherEvents (fu : Nat) (a0 : Nat) (a1 : Nat) (z : hp_S) : Option hp_S :=
  (ho_gr 5 a0 2 z).bind fun r1 =>
  (f_J7_fill fu r1 0 z).bind fun z =>
  (ho_is 5 a0 z).bind fun _ =>
  (f_X5_earliestHead fu a0 a1 z).bind fun ⟨v2, z⟩ =>
  f_X5_gatherEvents_L14 fu a0 a1 (f_X5_gatherEvents_B68 fu a0 a1) fu v2 z
set_option maxHeartbeats 4000000 in
set_option maxRecDepth 100000 in
theorem c_X5_gatherEvents (l : Launch) (G : hp_G) (fu : Nat) (a0 : Nat) (a1 : Nat) (z zq : hp_S) (h : f_X5_gatherEvents fu a0 a1 z = some zq) : hp_M l G yX5_gatherEvents cX5_gatherEvents 3 none 2 44 0 0 [.ref a0, .ref a1] z (hp_Qv G zq) := by
  refine hp_M.of (by decide) (Nat.le_of_ble_eq_true rfl) ?_
  intro p e s m below meth c X hr hlocks hnm hP hS ls hl
  have X : hp_C G cX5_gatherEvents RX5 3 p s m c := X
  have hl : lv_has ls 3 [(0, .ref a0), (1, .ref a1)] := hl
  have hx := X.1
  have hb := X.2.1
  have B68 : ∀ (z : hp_S) (H : Heap) (locs : List Loc) (ls : Array Slot), f_X5_gatherEvents_B68 fu a0 a1 z = some zq → hp_P G z H → va_S (hp_A G) s.heap H locs → lv_has ls 3 [(0, .ref a0), (1, .ref a1)] → W p l e (hp_rm 2 44 0 0) s m [.ref a0, .ref a1].toArray below meth c H locs 0 0 (MQ below (hp_Qv G zq) [.ref a0, .ref a1].toArray s 0 0 (hp_A G)) (F0 m 68 ls []) := by
    intro z H locs ls h hP hS hl
    unfold f_X5_gatherEvents_B68 at h
    exact hw_vret X hP hS hr hlocks h dX5_gatherEvents_68
  have L14 : ∀ (n14 : Nat) (w2 : Int32) (z : hp_S) (H : Heap) (locs : List Loc) (ls : Array Slot), f_X5_gatherEvents_L14 fu a0 a1 (f_X5_gatherEvents_B68 fu a0 a1) n14 w2 z = some zq → hp_P G z H → va_S (hp_A G) s.heap H locs → lv_has ls 3 [(0, .ref a0), (1, .ref a1), (2, .int w2)] → W p l e (hp_rm 2 44 0 0) s m [.ref a0, .ref a1].toArray below meth c H locs 0 0 (MQ below (hp_Qv G zq) [.ref a0, .ref a1].toArray s 0 0 (hp_A G)) (F0 m 14 ls []) := by
    intro n14
    induction n14 with
    | zero =>
      intro w2 z H locs ls h
      exact nomatch (h : (none : Option hp_S) = some zq)
    | succ n14 ih14 =>
      intro w2 z H locs ls h hP hS hl
      rw [f_X5_gatherEvents_L14] at h
      refine lv_iload_n hx hb dX5_gatherEvents_14 rfl (lv_at hl 2 rfl) ?_
      refine lv_sipush (v := 999) hx hb dX5_gatherEvents_15 (by decide) ?_
      refine lv_icmp_gt (tgt := 68) hx hb dX5_gatherEvents_18 (by decide) (fun hc => ?_) (fun hc => ?_)
      · replace h := ho_ip hc h
        exact B68 z _ _ _ h hP hS (lv_sub hl [0, 1] rfl)
      · replace h := ho_in hc h
        refine lv_aload_n hx hb dX5_gatherEvents_21 rfl (lv_at hl 0 rfl) ?_
        obtain ⟨v3, q, h⟩ := ho_bd h
        refine hw_gi X hP LX5 fX5_18 rfl q dX5_gatherEvents_22 ?_
        refine lv_aload_n hx hb dX5_gatherEvents_25 rfl (lv_at hl 0 rfl) ?_
        obtain ⟨r4, q, h⟩ := ho_bd h
        refine hw_gr X hP LX5 fX5_9 rfl q dX5_gatherEvents_26 ?_
        obtain ⟨v5, q, h⟩ := ho_bd h
        refine hw_ln (t0 := 0) X hP (by decide) (by decide) rfl q dX5_gatherEvents_29 ?_
        refine lv_icmp_ge (tgt := 68) hx hb dX5_gatherEvents_30 (by decide) (fun hc => ?_) (fun hc => ?_)
        · replace h := ho_ip hc h
          exact B68 z _ _ _ h hP hS (lv_sub hl [0, 1] rfl)
        · replace h := ho_in hc h
          refine lv_aload_n hx hb dX5_gatherEvents_33 rfl (lv_at hl 0 rfl) ?_
          obtain ⟨r6, q, h⟩ := ho_bd h
          refine hw_gr X hP LX5 fX5_9 rfl q dX5_gatherEvents_34 ?_
          refine lv_aload_n hx hb dX5_gatherEvents_37 rfl (lv_at hl 0 rfl) ?_
          obtain ⟨v7, q, h⟩ := ho_bd h
          refine hw_gi X hP LX5 fX5_18 rfl q dX5_gatherEvents_38 ?_
          refine lv_iload_n hx hb dX5_gatherEvents_41 rfl (lv_at hl 2 rfl) ?_
          obtain ⟨z, q, h⟩ := ho_bd h
          refine hw_si X hP hS q dX5_gatherEvents_42 (fun H locs hP hS => ?_)
          refine lv_aload_n hx hb dX5_gatherEvents_43 rfl (lv_at hl 0 rfl) ?_
          refine lv_dup hx hb dX5_gatherEvents_44 rfl ?_
          obtain ⟨v8, q, h⟩ := ho_bd h
          refine hw_gi X hP LX5 fX5_18 rfl q dX5_gatherEvents_45 ?_
          refine lv_iconst (v := 1) hx hb dX5_gatherEvents_48 (by decide) ?_
          refine lv_iadd hx hb dX5_gatherEvents_49 ?_
          obtain ⟨z, q, h⟩ := ho_bd h
          refine hw_pi X hP hS LX5 fX5_18 rfl rfl rfl q dX5_gatherEvents_50 (fun H locs hP hS => ?_)
          refine lv_aload_n hx hb dX5_gatherEvents_53 rfl (lv_at hl 0 rfl) ?_
          refine lv_aload_n hx hb dX5_gatherEvents_54 rfl (lv_at hl 1 rfl) ?_
          refine lv_iload_n hx hb dX5_gatherEvents_55 rfl (lv_at hl 2 rfl) ?_
          obtain ⟨_, hs, h⟩ := ho_bd h
          obtain ⟨z, q, h⟩ := ho_bd h
          refine hw_cv hS (hp_runV (As := [.ref a1, .int w2]) (rest := []) X hP hS hl.1 LX5 (ho_is_s hs) kX5_52 ⟨m2_24, mp_3⟩ (c_X5_passHeads l G fu a0 a1 w2 _ _ q) rfl (Nat.le_of_ble_eq_true rfl) ⟨⟨Nat.le_of_ble_eq_true rfl, Nat.le_of_ble_eq_true rfl⟩, Nat.le_of_ble_eq_true rfl, Nat.le_of_ble_eq_true rfl⟩ dX5_gatherEvents_56) (fun H locs hP hS => ?_)
          refine lv_aload_n hx hb dX5_gatherEvents_59 rfl (lv_at hl 0 rfl) ?_
          refine lv_aload_n hx hb dX5_gatherEvents_60 rfl (lv_at hl 1 rfl) ?_
          obtain ⟨_, hs, h⟩ := ho_bd h
          obtain ⟨⟨v9, z⟩, q, h⟩ := ho_bd h
          refine hw_ci hS (hp_runV (As := [.ref a1]) (rest := []) X hP hS hl.1 LX5 (ho_is_s hs) kX5_48 ⟨m2_19, mp_2⟩ (c_X5_earliestHead l G fu a0 a1 _ _ _ q) rfl (Nat.le_of_ble_eq_true rfl) ⟨⟨Nat.le_of_ble_eq_true rfl, Nat.le_of_ble_eq_true rfl⟩, Nat.le_of_ble_eq_true rfl, Nat.le_of_ble_eq_true rfl⟩ dX5_gatherEvents_61) (fun H locs hP hS => ?_)
          refine lv_istore_n (lv' := [(2, .int v9), (0, .ref a0), (1, .ref a1)]) hx hb dX5_gatherEvents_64 rfl hl (by decide) rfl (fun ls hl => ?_)
          refine lv_goto (tgt := 14) hx hb dX5_gatherEvents_65 (by decide) ?_
          exact ih14 v9 z _ _ _ h hP hS (lv_sub hl [1, 2, 0] rfl)
  unfold f_X5_gatherEvents at h
  refine lv_aload_n hx hb dX5_gatherEvents_0 rfl (lv_at hl 0 rfl) ?_
  obtain ⟨r1, q, h⟩ := ho_bd h
  refine hw_gr X hP LX5 fX5_15 rfl q dX5_gatherEvents_1 ?_
  refine lv_iconst (v := 0) hx hb dX5_gatherEvents_4 (by decide) ?_
  obtain ⟨z, q, h⟩ := ho_bd h
  refine hw_cv hS (hp_runS (As := [.ref r1, .int 0]) (rest := []) X hP hS hl.1 kX5_42 m1_237 (c_J7_fill l G fu r1 0 _ _ q) rfl (Nat.le_of_ble_eq_true rfl) ⟨⟨Nat.le_of_ble_eq_true rfl, Nat.le_of_ble_eq_true rfl⟩, Nat.le_of_ble_eq_true rfl, Nat.le_of_ble_eq_true rfl⟩ dX5_gatherEvents_5) (fun H locs hP hS => ?_)
  refine lv_aload_n hx hb dX5_gatherEvents_8 rfl (lv_at hl 0 rfl) ?_
  refine lv_aload_n hx hb dX5_gatherEvents_9 rfl (lv_at hl 1 rfl) ?_
  obtain ⟨_, hs, h⟩ := ho_bd h
  obtain ⟨⟨v2, z⟩, q, h⟩ := ho_bd h
  refine hw_ci hS (hp_runV (As := [.ref a1]) (rest := []) X hP hS hl.1 LX5 (ho_is_s hs) kX5_48 ⟨m2_19, mp_2⟩ (c_X5_earliestHead l G fu a0 a1 _ _ _ q) rfl (Nat.le_of_ble_eq_true rfl) ⟨⟨Nat.le_of_ble_eq_true rfl, Nat.le_of_ble_eq_true rfl⟩, Nat.le_of_ble_eq_true rfl, Nat.le_of_ble_eq_true rfl⟩ dX5_gatherEvents_10) (fun H locs hP hS => ?_)
  refine lv_istore_n (lv' := [(2, .int v2), (0, .ref a0), (1, .ref a1)]) hx hb dX5_gatherEvents_13 rfl hl (by decide) rfl (fun ls hl => ?_)
  exact L14 fu v2 z _ _ _ h hP hS (lv_sub hl [1, 2, 0] rfl)
def f_X5_gather_B23 (fu : Nat) (a0 : Nat) (a1 : Nat) (x2 : Int32) (z : hp_S) : Option hp_S :=
  some z
def f_X5_gather (fu : Nat) (a0 : Nat) (a1 : Nat) (x2 : Int32) (z : hp_S) : Option hp_S :=
  (ho_pi 5 a0 1 0 z).bind fun z =>
  if x2 ≤ 0 then (
    (ho_is 5 a0 z).bind fun _ =>
    (f_X5_gatherEvents fu a0 a1 z).bind fun z =>
    f_X5_gather_B23 fu a0 a1 x2  z
  ) else (
    (ho_is 5 a0 z).bind fun _ =>
    (f_X5_gatherGrid fu a0 a1 x2 z).bind fun z =>
    f_X5_gather_B23 fu a0 a1 x2  z
  )
set_option maxHeartbeats 4000000 in
set_option maxRecDepth 100000 in
theorem c_X5_gather (l : Launch) (G : hp_G) (fu : Nat) (a0 : Nat) (a1 : Nat) (x2 : Int32) (z zq : hp_S) (h : f_X5_gather fu a0 a1 x2 z = some zq) : hp_M l G yX5_gather cX5_gather 3 none 3 66 0 0 [.ref a0, .ref a1, .int x2] z (hp_Qv G zq) := by
  refine hp_M.of (by decide) (Nat.le_of_ble_eq_true rfl) ?_
  intro p e s m below meth c X hr hlocks hnm hP hS ls hl
  have X : hp_C G cX5_gather RX5 3 p s m c := X
  have hl : lv_has ls 3 [(0, .ref a0), (1, .ref a1), (2, .int x2)] := hl
  have hx := X.1
  have hb := X.2.1
  have B23 : ∀ (z : hp_S) (H : Heap) (locs : List Loc) (ls : Array Slot), f_X5_gather_B23 fu a0 a1 x2 z = some zq → hp_P G z H → va_S (hp_A G) s.heap H locs → lv_has ls 3 [(0, .ref a0), (1, .ref a1), (2, .int x2)] → W p l e (hp_rm 3 66 0 0) s m [.ref a0, .ref a1, .int x2].toArray below meth c H locs 0 0 (MQ below (hp_Qv G zq) [.ref a0, .ref a1, .int x2].toArray s 0 0 (hp_A G)) (F0 m 23 ls []) := by
    intro z H locs ls h hP hS hl
    unfold f_X5_gather_B23 at h
    exact hw_vret X hP hS hr hlocks h dX5_gather_23
  unfold f_X5_gather at h
  refine lv_aload_n hx hb dX5_gather_0 rfl (lv_at hl 0 rfl) ?_
  refine lv_iconst (v := 0) hx hb dX5_gather_1 (by decide) ?_
  obtain ⟨z, q, h⟩ := ho_bd h
  refine hw_pi X hP hS LX5 fX5_18 rfl rfl rfl q dX5_gather_2 (fun H locs hP hS => ?_)
  refine lv_iload_n hx hb dX5_gather_5 rfl (lv_at hl 2 rfl) ?_
  refine lv_if_le (tgt := 18) hx hb dX5_gather_6 (by decide) (fun hc => ?_) (fun hc => ?_)
  · replace h := ho_ip hc h
    refine lv_aload_n hx hb dX5_gather_18 rfl (lv_at hl 0 rfl) ?_
    refine lv_aload_n hx hb dX5_gather_19 rfl (lv_at hl 1 rfl) ?_
    obtain ⟨_, hs, h⟩ := ho_bd h
    obtain ⟨z, q, h⟩ := ho_bd h
    refine hw_cv hS (hp_runV (As := [.ref a1]) (rest := []) X hP hS hl.1 LX5 (ho_is_s hs) kX5_26 ⟨m2_14, mp_1⟩ (c_X5_gatherEvents l G fu a0 a1 _ _ q) rfl (Nat.le_of_ble_eq_true rfl) ⟨⟨Nat.le_of_ble_eq_true rfl, Nat.le_of_ble_eq_true rfl⟩, Nat.le_of_ble_eq_true rfl, Nat.le_of_ble_eq_true rfl⟩ dX5_gather_20) (fun H locs hP hS => ?_)
    exact B23 z _ _ _ h hP hS (lv_sub hl [0, 1, 2] rfl)
  · replace h := ho_in hc h
    refine lv_aload_n hx hb dX5_gather_9 rfl (lv_at hl 0 rfl) ?_
    refine lv_aload_n hx hb dX5_gather_10 rfl (lv_at hl 1 rfl) ?_
    refine lv_iload_n hx hb dX5_gather_11 rfl (lv_at hl 2 rfl) ?_
    obtain ⟨_, hs, h⟩ := ho_bd h
    obtain ⟨z, q, h⟩ := ho_bd h
    refine hw_cv hS (hp_runV (As := [.ref a1, .int x2]) (rest := []) X hP hS hl.1 LX5 (ho_is_s hs) kX5_22 ⟨m2_5, mp_0⟩ (c_X5_gatherGrid l G fu a0 a1 x2 _ _ q) rfl (Nat.le_of_ble_eq_true rfl) ⟨⟨Nat.le_of_ble_eq_true rfl, Nat.le_of_ble_eq_true rfl⟩, Nat.le_of_ble_eq_true rfl, Nat.le_of_ble_eq_true rfl⟩ dX5_gather_12) (fun H locs hP hS => ?_)
    refine lv_goto (tgt := 23) hx hb dX5_gather_15 (by decide) ?_
    exact B23 z _ _ _ h hP hS (lv_sub hl [0, 1, 2] rfl)
def f_X6_clear_B40 (fu : Nat) (a0 : Nat) (w1 : Int32) (z : hp_S) : Option (Int32 × hp_S) :=
  (ho_gr 6 a0 2 z).bind fun r1 =>
  (ho_pi 1 r1 2 0 z).bind fun z =>
  (ho_gr 6 a0 3 z).bind fun r2 =>
  (ho_pi 1 r2 2 0 z).bind fun z =>
  (ho_gr 6 a0 4 z).bind fun r3 =>
  (ho_gr 3 r3 0 z).bind fun r4 =>
  (ho_is 2 r4 z).bind fun _ =>
  (f_X2_reset fu r4 z).bind fun z =>
  (ho_tl h_t0 0).bind fun v5 =>
  (ho_pi 6 a0 6 v5 z).bind fun z =>
  (ho_pi 6 a0 7 0 z).bind fun z =>
  (ho_pi 6 a0 8 0 z).bind fun z =>
  (ho_gr 6 a0 1 z).bind fun r6 =>
  (ho_gr 6 a0 0 z).bind fun r7 =>
  (ho_gi 6 a0 8 z).bind fun v8 =>
  (ho_is 5 r6 z).bind fun _ =>
  (f_X5_gather fu r6 r7 v8 z).bind fun z =>
  some (w1, z)
def f_X6_clear_L4 (fu : Nat) (a0 : Nat) (kk : Int32 → hp_S → Option (Int32 × hp_S)) : Nat → Int32 → Int32 → hp_S → Option (Int32 × hp_S)
  | 0, _, _, _ => none
  | n + 1, w1, w2, z =>
    (ho_gr 6 a0 0 z).bind fun r9 =>
    (ho_ln (4 + 53) r9 z).bind fun v10 =>
    if v10 ≤ w2 then (
      kk w1 z
    ) else (
      (ho_gr 6 a0 0 z).bind fun r11 =>
      (ho_lr 4 r11 w2 z).bind fun r12 =>
      (ho_gi 4 r12 3 z).bind fun v13 =>
      (ho_id (w1 + v13)).bind fun v14 =>
      (ho_gr 6 a0 0 z).bind fun r15 =>
      (ho_lr 4 r15 w2 z).bind fun r16 =>
      (ho_is 4 r16 z).bind fun _ =>
      (f_X4_reset fu r16 z).bind fun z =>
      (ho_id (w2 + 1)).bind fun v17 =>
      (f_X6_clear_L4 fu a0 kk n) v14 v17 z
    )
def f_X6_clear (fu : Nat) (a0 : Nat) (z : hp_S) : Option (Int32 × hp_S) :=
  f_X6_clear_L4 fu a0 (f_X6_clear_B40 fu a0) fu 0 0 z
set_option maxHeartbeats 4000000 in
set_option maxRecDepth 100000 in
theorem c_X6_clear (l : Launch) (G : hp_G) (fu : Nat) (a0 : Nat) (z : hp_S) (rq : Int32) (zq : hp_S) (h : f_X6_clear fu a0 z = some (rq, zq)) : hp_M l G yX6_clear cX6_clear 3 (some .int) 4 88 0 0 [.ref a0] z (hp_Qi G rq zq) := by
  refine hp_M.of (by decide) (Nat.le_of_ble_eq_true rfl) ?_
  intro p e s m below meth c X hr hlocks hnm hP hS ls hl
  have X : hp_C G cX6_clear RX6 3 p s m c := X
  have hl : lv_has ls 3 [(0, .ref a0)] := hl
  have hx := X.1
  have hb := X.2.1
  have B40 : ∀ (w1 : Int32) (z : hp_S) (H : Heap) (locs : List Loc) (ls : Array Slot), f_X6_clear_B40 fu a0 w1 z = some (rq, zq) → hp_P G z H → va_S (hp_A G) s.heap H locs → lv_has ls 3 [(0, .ref a0), (1, .int w1)] → W p l e (hp_rm 4 88 0 0) s m [.ref a0].toArray below meth c H locs 0 0 (MQ below (hp_Qi G rq zq) [.ref a0].toArray s 0 0 (hp_A G)) (F0 m 40 ls []) := by
    intro w1 z H locs ls h hP hS hl
    unfold f_X6_clear_B40 at h
    refine lv_aload_n hx hb dX6_clear_40 rfl (lv_at hl 0 rfl) ?_
    obtain ⟨r1, q, h⟩ := ho_bd h
    refine hw_gr X hP LX6 fX6_37 rfl q dX6_clear_41 ?_
    refine lv_iconst (v := 0) hx hb dX6_clear_44 (by decide) ?_
    obtain ⟨z, q, h⟩ := ho_bd h
    refine hw_pi X hP hS LX1 fX6_72 rfl rfl rfl q dX6_clear_45 (fun H locs hP hS => ?_)
    refine lv_aload_n hx hb dX6_clear_48 rfl (lv_at hl 0 rfl) ?_
    obtain ⟨r2, q, h⟩ := ho_bd h
    refine hw_gr X hP LX6 fX6_41 rfl q dX6_clear_49 ?_
    refine lv_iconst (v := 0) hx hb dX6_clear_52 (by decide) ?_
    obtain ⟨z, q, h⟩ := ho_bd h
    refine hw_pi X hP hS LX1 fX6_72 rfl rfl rfl q dX6_clear_53 (fun H locs hP hS => ?_)
    refine lv_aload_n hx hb dX6_clear_56 rfl (lv_at hl 0 rfl) ?_
    obtain ⟨r3, q, h⟩ := ho_bd h
    refine hw_gr X hP LX6 fX6_47 rfl q dX6_clear_57 ?_
    obtain ⟨r4, q, h⟩ := ho_bd h
    refine hw_gr X hP LX3 fX6_73 rfl q dX6_clear_60 ?_
    obtain ⟨_, hs, h⟩ := ho_bd h
    obtain ⟨z, q, h⟩ := ho_bd h
    refine hw_cv hS (hp_runV (As := []) (rest := []) X hP hS hl.1 LX2 (ho_is_s hs) kX6_77 ⟨m1_233, m1_234⟩ (c_X2_reset l G fu r4 _ _ q) rfl (Nat.le_of_ble_eq_true rfl) ⟨⟨Nat.le_of_ble_eq_true rfl, Nat.le_of_ble_eq_true rfl⟩, Nat.le_of_ble_eq_true rfl, Nat.le_of_ble_eq_true rfl⟩ dX6_clear_63) (fun H locs hP hS => ?_)
    refine lv_aload_n hx hb dX6_clear_66 rfl (lv_at hl 0 rfl) ?_
    refine hw_gs (q := h_q0) X hS h_s0 m1_194 dX6_clear_67 ?_
    refine lv_iconst (v := 0) hx hb dX6_clear_70 (by decide) ?_
    obtain ⟨v5, q, h⟩ := ho_bd h
    refine hw_tl (q := h_q0) X hS h_s0 q dX6_clear_71 ?_
    obtain ⟨z, q, h⟩ := ho_bd h
    refine hw_pi X hP hS LX6 fX6_62 rfl rfl rfl q dX6_clear_72 (fun H locs hP hS => ?_)
    refine lv_aload_n hx hb dX6_clear_75 rfl (lv_at hl 0 rfl) ?_
    refine lv_iconst (v := 0) hx hb dX6_clear_76 (by decide) ?_
    obtain ⟨z, q, h⟩ := ho_bd h
    refine hw_pi X hP hS LX6 fX6_80 rfl rfl rfl q dX6_clear_77 (fun H locs hP hS => ?_)
    refine lv_aload_n hx hb dX6_clear_80 rfl (lv_at hl 0 rfl) ?_
    refine lv_iconst (v := 0) hx hb dX6_clear_81 (by decide) ?_
    obtain ⟨z, q, h⟩ := ho_bd h
    refine hw_pi X hP hS LX6 fX6_83 rfl rfl rfl q dX6_clear_82 (fun H locs hP hS => ?_)
    refine lv_aload_n hx hb dX6_clear_85 rfl (lv_at hl 0 rfl) ?_
    obtain ⟨r6, q, h⟩ := ho_bd h
    refine hw_gr X hP LX6 fX6_28 rfl q dX6_clear_86 ?_
    refine lv_aload_n hx hb dX6_clear_89 rfl (lv_at hl 0 rfl) ?_
    obtain ⟨r7, q, h⟩ := ho_bd h
    refine hw_gr X hP LX6 fX6_20 rfl q dX6_clear_90 ?_
    refine lv_aload_n hx hb dX6_clear_93 rfl (lv_at hl 0 rfl) ?_
    obtain ⟨v8, q, h⟩ := ho_bd h
    refine hw_gi X hP LX6 fX6_83 rfl q dX6_clear_94 ?_
    obtain ⟨_, hs, h⟩ := ho_bd h
    obtain ⟨z, q, h⟩ := ho_bd h
    refine hw_cv hS (hp_runV (As := [.ref r7, .int v8]) (rest := []) X hP hS hl.1 LX5 (ho_is_s hs) kX6_86 ⟨m2_0, m2_1⟩ (c_X5_gather l G fu r6 r7 v8 _ _ q) rfl (Nat.le_of_ble_eq_true rfl) ⟨⟨Nat.le_of_ble_eq_true rfl, Nat.le_of_ble_eq_true rfl⟩, Nat.le_of_ble_eq_true rfl, Nat.le_of_ble_eq_true rfl⟩ dX6_clear_97) (fun H locs hP hS => ?_)
    refine lv_iload_n hx hb dX6_clear_100 rfl (lv_at hl 1 rfl) ?_
    exact hw_iret X hP hS hr hlocks h dX6_clear_101
  have L4 : ∀ (n4 : Nat) (w1 : Int32) (w2 : Int32) (z : hp_S) (H : Heap) (locs : List Loc) (ls : Array Slot), f_X6_clear_L4 fu a0 (f_X6_clear_B40 fu a0) n4 w1 w2 z = some (rq, zq) → hp_P G z H → va_S (hp_A G) s.heap H locs → lv_has ls 3 [(0, .ref a0), (1, .int w1), (2, .int w2)] → W p l e (hp_rm 4 88 0 0) s m [.ref a0].toArray below meth c H locs 0 0 (MQ below (hp_Qi G rq zq) [.ref a0].toArray s 0 0 (hp_A G)) (F0 m 4 ls []) := by
    intro n4
    induction n4 with
    | zero =>
      intro w1 w2 z H locs ls h
      exact nomatch (h : (none : Option (Int32 × hp_S)) = some (rq, zq))
    | succ n4 ih4 =>
      intro w1 w2 z H locs ls h hP hS hl
      rw [f_X6_clear_L4] at h
      refine lv_iload_n hx hb dX6_clear_4 rfl (lv_at hl 2 rfl) ?_
      refine lv_aload_n hx hb dX6_clear_5 rfl (lv_at hl 0 rfl) ?_
      obtain ⟨r9, q, h⟩ := ho_bd h
      refine hw_gr X hP LX6 fX6_20 rfl q dX6_clear_6 ?_
      obtain ⟨v10, q, h⟩ := ho_bd h
      refine hw_lnr (t0 := 2) X hP rfl q dX6_clear_9 ?_
      refine lv_icmp_ge (tgt := 40) hx hb dX6_clear_10 (by decide) (fun hc => ?_) (fun hc => ?_)
      · replace h := ho_ip hc h
        exact B40 w1 z _ _ _ h hP hS (lv_sub hl [0, 1] rfl)
      · replace h := ho_in hc h
        refine lv_iload_n hx hb dX6_clear_13 rfl (lv_at hl 1 rfl) ?_
        refine lv_aload_n hx hb dX6_clear_14 rfl (lv_at hl 0 rfl) ?_
        obtain ⟨r11, q, h⟩ := ho_bd h
        refine hw_gr X hP LX6 fX6_20 rfl q dX6_clear_15 ?_
        refine lv_iload_n hx hb dX6_clear_18 rfl (lv_at hl 2 rfl) ?_
        obtain ⟨r12, q, h⟩ := ho_bd h
        refine hw_lr (t0 := 2) X hP rfl q dX6_clear_19 ?_
        obtain ⟨v13, q, h⟩ := ho_bd h
        refine hw_gi X hP LX4 fX6_66 rfl q dX6_clear_20 ?_
        refine lv_iadd hx hb dX6_clear_23 ?_
        obtain ⟨v14, q, h⟩ := ho_bd h
        refine hw_id q ?_
        refine lv_istore_n (lv' := [(1, .int v14), (0, .ref a0), (2, .int w2)]) hx hb dX6_clear_24 rfl hl (by decide) rfl (fun ls hl => ?_)
        refine lv_aload_n hx hb dX6_clear_25 rfl (lv_at hl 1 rfl) ?_
        obtain ⟨r15, q, h⟩ := ho_bd h
        refine hw_gr X hP LX6 fX6_20 rfl q dX6_clear_26 ?_
        refine lv_iload_n hx hb dX6_clear_29 rfl (lv_at hl 2 rfl) ?_
        obtain ⟨r16, q, h⟩ := ho_bd h
        refine hw_lr (t0 := 2) X hP rfl q dX6_clear_30 ?_
        obtain ⟨_, hs, h⟩ := ho_bd h
        obtain ⟨z, q, h⟩ := ho_bd h
        refine hw_cv hS (hp_runV (As := []) (rest := []) X hP hS hl.1 LX4 (ho_is_s hs) kX6_69 ⟨m1_229, m1_230⟩ (c_X4_reset l G fu r16 _ _ q) rfl (Nat.le_of_ble_eq_true rfl) ⟨⟨Nat.le_of_ble_eq_true rfl, Nat.le_of_ble_eq_true rfl⟩, Nat.le_of_ble_eq_true rfl, Nat.le_of_ble_eq_true rfl⟩ dX6_clear_31) (fun H locs hP hS => ?_)
        obtain ⟨v17, q, h⟩ := ho_bd h
        refine lv_iinc (v := v17) (lv' := [(2, .int v17), (1, .int v14), (0, .ref a0)]) hx hb dX6_clear_34 hl (k := 2) rfl (Option.some.inj q) (by decide) rfl (fun ls hl => ?_)
        refine lv_goto (tgt := 4) hx hb dX6_clear_37 (by decide) ?_
        exact ih4 v14 v17 z _ _ _ h hP hS (lv_sub hl [2, 1, 0] rfl)
  unfold f_X6_clear at h
  refine lv_iconst (v := 0) hx hb dX6_clear_0 (by decide) ?_
  refine lv_istore_n (lv' := [(1, .int 0), (0, .ref a0)]) hx hb dX6_clear_1 rfl hl (by decide) rfl (fun ls hl => ?_)
  refine lv_iconst (v := 0) hx hb dX6_clear_2 (by decide) ?_
  refine lv_istore_n (lv' := [(2, .int 0), (1, .int 0), (0, .ref a0)]) hx hb dX6_clear_3 rfl hl (by decide) rfl (fun ls hl => ?_)
  exact L4 fu 0 0 z _ _ _ h hP hS (lv_sub hl [2, 1, 0] rfl)
