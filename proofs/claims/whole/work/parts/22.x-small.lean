def f_X6_within_B15 (fu : Nat) (x0 : Int32) (x1 : Int32) (x2 : Int32) (s0 : Int32) (z : hp_S) : Option (Int32 × hp_S) :=
  if vp_nar .boolean s0 = s0 then some (s0, z) else none
def f_X6_within_B14 (fu : Nat) (x0 : Int32) (x1 : Int32) (x2 : Int32) (z : hp_S) : Option (Int32 × hp_S) :=
  f_X6_within_B15 fu x0 x1 x2 0 z
def f_X6_within (fu : Nat) (x0 : Int32) (x1 : Int32) (x2 : Int32) (z : hp_S) : Option (Int32 × hp_S) :=
  if x0 < x1 then (
    f_X6_within_B14 fu x0 x1 x2  z
  ) else (
    if x2 < x0 then (
      f_X6_within_B14 fu x0 x1 x2  z
    ) else (
      f_X6_within_B15 fu x0 x1 x2 1 z
    )
  )
set_option maxHeartbeats 4000000 in
set_option maxRecDepth 100000 in
theorem c_X6_within (l : Launch) (G : hp_G) (fu : Nat) (x0 : Int32) (x1 : Int32) (x2 : Int32) (z : hp_S) (rq : Int32) (zq : hp_S) (h : f_X6_within fu x0 x1 x2 z = some (rq, zq)) : hp_M l G yX6_within cX6_within 3 (some .boolean) 0 0 0 0 [.int x0, .int x1, .int x2] z (hp_Qi G rq zq) := by
  refine hp_M.of (by decide) (Nat.le_of_ble_eq_true rfl) ?_
  intro p e s m below meth c X hr hlocks hnm hP hS ls hl
  have X : hp_C G cX6_within RX6 3 p s m c := X
  have hl : lv_has ls 3 [(0, .int x0), (1, .int x1), (2, .int x2)] := hl
  have hx := X.1
  have hb := X.2.1
  have B15 : ∀ (s0 : Int32) (z : hp_S) (H : Heap) (locs : List Loc) (ls : Array Slot), f_X6_within_B15 fu x0 x1 x2 s0 z = some (rq, zq) → hp_P G z H → va_S (hp_A G) s.heap H locs → lv_has ls 3 [(0, .int x0), (1, .int x1), (2, .int x2)] → W p l e (hp_rm 0 0 0 0) s m [.int x0, .int x1, .int x2].toArray below meth c H locs 0 0 (MQ below (hp_Qi G rq zq) [.int x0, .int x1, .int x2].toArray s 0 0 (hp_A G)) (F0 m 15 ls [.int s0]) := by
    intro s0 z H locs ls h hP hS hl
    unfold f_X6_within_B15 at h
    exact hw_zret X hP hS hr hlocks h dX6_within_15
  have B14 : ∀ (z : hp_S) (H : Heap) (locs : List Loc) (ls : Array Slot), f_X6_within_B14 fu x0 x1 x2 z = some (rq, zq) → hp_P G z H → va_S (hp_A G) s.heap H locs → lv_has ls 3 [(0, .int x0), (1, .int x1), (2, .int x2)] → W p l e (hp_rm 0 0 0 0) s m [.int x0, .int x1, .int x2].toArray below meth c H locs 0 0 (MQ below (hp_Qi G rq zq) [.int x0, .int x1, .int x2].toArray s 0 0 (hp_A G)) (F0 m 14 ls []) := by
    intro z H locs ls h hP hS hl
    unfold f_X6_within_B14 at h
    refine lv_iconst (v := 0) hx hb dX6_within_14 (by decide) ?_
    exact B15 0 z _ _ _ h hP hS (lv_sub hl [0, 1, 2] rfl)
  unfold f_X6_within at h
  refine lv_iload_n hx hb dX6_within_0 rfl (lv_at hl 0 rfl) ?_
  refine lv_iload_n hx hb dX6_within_1 rfl (lv_at hl 1 rfl) ?_
  refine lv_icmp_lt (tgt := 14) hx hb dX6_within_2 (by decide) (fun hc => ?_) (fun hc => ?_)
  · replace h := ho_ip hc h
    exact B14 z _ _ _ h hP hS (lv_sub hl [0, 1, 2] rfl)
  · replace h := ho_in hc h
    refine lv_iload_n hx hb dX6_within_5 rfl (lv_at hl 0 rfl) ?_
    refine lv_iload_n hx hb dX6_within_6 rfl (lv_at hl 2 rfl) ?_
    refine lv_icmp_gt (tgt := 14) hx hb dX6_within_7 (by decide) (fun hc => ?_) (fun hc => ?_)
    · replace h := ho_ip hc h
      exact B14 z _ _ _ h hP hS (lv_sub hl [0, 1, 2] rfl)
    · replace h := ho_in hc h
      refine lv_iconst (v := 1) hx hb dX6_within_10 (by decide) ?_
      refine lv_goto (tgt := 15) hx hb dX6_within_11 (by decide) ?_
      exact B15 1 z _ _ _ h hP hS (lv_sub hl [0, 1, 2] rfl)
def f_X6_isVoice (fu : Nat) (a0 : Nat) (x1 : Int32) (z : hp_S) : Option (Int32 × hp_S) :=
  (ho_gr 6 a0 0 z).bind fun r1 =>
  (ho_ln (4 + 53) r1 z).bind fun v2 =>
  (f_X6_within fu x1 0 (v2 - 1) z).bind fun ⟨v3, z⟩ =>
  if vp_nar .boolean v3 = v3 then some (v3, z) else none
set_option maxHeartbeats 4000000 in
set_option maxRecDepth 100000 in
theorem c_X6_isVoice (l : Launch) (G : hp_G) (fu : Nat) (a0 : Nat) (x1 : Int32) (z : hp_S) (rq : Int32) (zq : hp_S) (h : f_X6_isVoice fu a0 x1 z = some (rq, zq)) : hp_M l G yX6_isVoice cX6_isVoice 2 (some .boolean) 1 22 0 0 [.ref a0, .int x1] z (hp_Qi G rq zq) := by
  refine hp_M.of (by decide) (Nat.le_of_ble_eq_true rfl) ?_
  intro p e s m below meth c X hr hlocks hnm hP hS ls hl
  have X : hp_C G cX6_isVoice RX6 2 p s m c := X
  have hl : lv_has ls 2 [(0, .ref a0), (1, .int x1)] := hl
  have hx := X.1
  have hb := X.2.1
  unfold f_X6_isVoice at h
  refine lv_iload_n hx hb dX6_isVoice_0 rfl (lv_at hl 1 rfl) ?_
  refine lv_iconst (v := 0) hx hb dX6_isVoice_1 (by decide) ?_
  refine lv_aload_n hx hb dX6_isVoice_2 rfl (lv_at hl 0 rfl) ?_
  obtain ⟨r1, q, h⟩ := ho_bd h
  refine hw_gr X hP LX6 fX6_20 rfl q dX6_isVoice_3 ?_
  obtain ⟨v2, q, h⟩ := ho_bd h
  refine hw_lnr (t0 := 2) X hP rfl q dX6_isVoice_6 ?_
  refine lv_iconst (v := 1) hx hb dX6_isVoice_7 (by decide) ?_
  refine lv_isub hx hb dX6_isVoice_8 ?_
  obtain ⟨⟨v3, z⟩, q, h⟩ := ho_bd h
  refine hw_ci hS (hp_runS (As := [.int x1, .int 0, .int (v2 - 1)]) (rest := []) X hP hS hl.1 kX6_97 m2_35 (c_X6_within l G fu x1 0 (v2 - 1) _ _ _ q) rfl (Nat.le_of_ble_eq_true rfl) ⟨⟨Nat.le_of_ble_eq_true rfl, Nat.le_of_ble_eq_true rfl⟩, Nat.le_of_ble_eq_true rfl, Nat.le_of_ble_eq_true rfl⟩ dX6_isVoice_9) (fun H locs hP hS => ?_)
  exact hw_zret X hP hS hr hlocks h dX6_isVoice_12
def f_X6_isTime (fu : Nat) (x0 : Int32) (z : hp_S) : Option (Int32 × hp_S) :=
  (f_X6_within fu x0 0 999 z).bind fun ⟨v1, z⟩ =>
  if vp_nar .boolean v1 = v1 then some (v1, z) else none
set_option maxHeartbeats 4000000 in
set_option maxRecDepth 100000 in
theorem c_X6_isTime (l : Launch) (G : hp_G) (fu : Nat) (x0 : Int32) (z : hp_S) (rq : Int32) (zq : hp_S) (h : f_X6_isTime fu x0 z = some (rq, zq)) : hp_M l G yX6_isTime cX6_isTime 1 (some .boolean) 1 22 0 0 [.int x0] z (hp_Qi G rq zq) := by
  refine hp_M.of (by decide) (Nat.le_of_ble_eq_true rfl) ?_
  intro p e s m below meth c X hr hlocks hnm hP hS ls hl
  have X : hp_C G cX6_isTime RX6 1 p s m c := X
  have hl : lv_has ls 1 [(0, .int x0)] := hl
  have hx := X.1
  have hb := X.2.1
  unfold f_X6_isTime at h
  refine lv_iload_n hx hb dX6_isTime_0 rfl (lv_at hl 0 rfl) ?_
  refine lv_iconst (v := 0) hx hb dX6_isTime_1 (by decide) ?_
  refine lv_sipush (v := 999) hx hb dX6_isTime_2 (by decide) ?_
  obtain ⟨⟨v1, z⟩, q, h⟩ := ho_bd h
  refine hw_ci hS (hp_runS (As := [.int x0, .int 0, .int 999]) (rest := []) X hP hS hl.1 kX6_97 m2_35 (c_X6_within l G fu x0 0 999 _ _ _ q) rfl (Nat.le_of_ble_eq_true rfl) ⟨⟨Nat.le_of_ble_eq_true rfl, Nat.le_of_ble_eq_true rfl⟩, Nat.le_of_ble_eq_true rfl, Nat.le_of_ble_eq_true rfl⟩ dX6_isTime_5) (fun H locs hP hS => ?_)
  exact hw_zret X hP hS hr hlocks h dX6_isTime_8
def f_X4_append (fu : Nat) (a0 : Nat) (x1 : Int32) (x2 : Int32) (x3 : Int32) (z : hp_S) : Option (Int32 × hp_S) :=
  (ho_is 4 a0 z).bind fun _ =>
  (f_X4_lastTime fu a0 z).bind fun ⟨v1, z⟩ =>
  if v1 < x1 then (
    (ho_gi 4 a0 3 z).bind fun v2 =>
    if v2 < 24 then (
      (ho_gr 4 a0 0 z).bind fun r3 =>
      (ho_gi 4 a0 3 z).bind fun v4 =>
      (ho_si r3 v4 x1 z).bind fun z =>
      (ho_gr 4 a0 1 z).bind fun r5 =>
      (ho_gi 4 a0 3 z).bind fun v6 =>
      (ho_si r5 v6 x2 z).bind fun z =>
      (ho_gr 4 a0 2 z).bind fun r7 =>
      (ho_gi 4 a0 3 z).bind fun v8 =>
      (ho_si r7 v8 x3 z).bind fun z =>
      (ho_gi 4 a0 3 z).bind fun v9 =>
      (ho_pi 4 a0 3 (v9 + 1) z).bind fun z =>
      (ho_gi 4 a0 3 z).bind fun v10 =>
      some (v10, z)
    ) else (
      some ((-3), z)
    )
  ) else (
    some ((-4), z)
  )
set_option maxHeartbeats 4000000 in
set_option maxRecDepth 100000 in
theorem c_X4_append (l : Launch) (G : hp_G) (fu : Nat) (a0 : Nat) (x1 : Int32) (x2 : Int32) (x3 : Int32) (z : hp_S) (rq : Int32) (zq : hp_S) (h : f_X4_append fu a0 x1 x2 x3 z = some (rq, zq)) : hp_M l G yX4_append cX4_append 4 (some .int) 1 20 0 0 [.ref a0, .int x1, .int x2, .int x3] z (hp_Qi G rq zq) := by
  refine hp_M.of (by decide) (Nat.le_of_ble_eq_true rfl) ?_
  intro p e s m below meth c X hr hlocks hnm hP hS ls hl
  have X : hp_C G cX4_append RX4 4 p s m c := X
  have hl : lv_has ls 4 [(0, .ref a0), (1, .int x1), (2, .int x2), (3, .int x3)] := hl
  have hx := X.1
  have hb := X.2.1
  unfold f_X4_append at h
  refine lv_iload_n hx hb dX4_append_0 rfl (lv_at hl 1 rfl) ?_
  refine lv_aload_n hx hb dX4_append_1 rfl (lv_at hl 0 rfl) ?_
  obtain ⟨_, hs, h⟩ := ho_bd h
  obtain ⟨⟨v1, z⟩, q, h⟩ := ho_bd h
  refine hw_ci hS (hp_runV (As := []) (rest := [.int x1]) X hP hS hl.1 LX4 (ho_is_s hs) kX4_31 ⟨m2_8, m2_9⟩ (c_X4_lastTime l G fu a0 _ _ _ q) rfl (Nat.le_of_ble_eq_true rfl) ⟨⟨Nat.le_of_ble_eq_true rfl, Nat.le_of_ble_eq_true rfl⟩, Nat.le_of_ble_eq_true rfl, Nat.le_of_ble_eq_true rfl⟩ dX4_append_2) (fun H locs hP hS => ?_)
  refine lv_icmp_gt (tgt := 11) hx hb dX4_append_5 (by decide) (fun hc => ?_) (fun hc => ?_)
  · replace h := ho_ip hc h
    refine lv_aload_n hx hb dX4_append_11 rfl (lv_at hl 0 rfl) ?_
    obtain ⟨v2, q, h⟩ := ho_bd h
    refine hw_gi X hP LX4 fX4_28 rfl q dX4_append_12 ?_
    refine lv_bipush (v := 24) hx hb dX4_append_15 (by decide) ?_
    refine lv_icmp_lt (tgt := 23) hx hb dX4_append_17 (by decide) (fun hc => ?_) (fun hc => ?_)
    · replace h := ho_ip hc h
      refine lv_aload_n hx hb dX4_append_23 rfl (lv_at hl 0 rfl) ?_
      obtain ⟨r3, q, h⟩ := ho_bd h
      refine hw_gr X hP LX4 fX4_9 rfl q dX4_append_24 ?_
      refine lv_aload_n hx hb dX4_append_27 rfl (lv_at hl 0 rfl) ?_
      obtain ⟨v4, q, h⟩ := ho_bd h
      refine hw_gi X hP LX4 fX4_28 rfl q dX4_append_28 ?_
      refine lv_iload_n hx hb dX4_append_31 rfl (lv_at hl 1 rfl) ?_
      obtain ⟨z, q, h⟩ := ho_bd h
      refine hw_si X hP hS q dX4_append_32 (fun H locs hP hS => ?_)
      refine lv_aload_n hx hb dX4_append_33 rfl (lv_at hl 0 rfl) ?_
      obtain ⟨r5, q, h⟩ := ho_bd h
      refine hw_gr X hP LX4 fX4_15 rfl q dX4_append_34 ?_
      refine lv_aload_n hx hb dX4_append_37 rfl (lv_at hl 0 rfl) ?_
      obtain ⟨v6, q, h⟩ := ho_bd h
      refine hw_gi X hP LX4 fX4_28 rfl q dX4_append_38 ?_
      refine lv_iload_n hx hb dX4_append_41 rfl (lv_at hl 2 rfl) ?_
      obtain ⟨z, q, h⟩ := ho_bd h
      refine hw_si X hP hS q dX4_append_42 (fun H locs hP hS => ?_)
      refine lv_aload_n hx hb dX4_append_43 rfl (lv_at hl 0 rfl) ?_
      obtain ⟨r7, q, h⟩ := ho_bd h
      refine hw_gr X hP LX4 fX4_18 rfl q dX4_append_44 ?_
      refine lv_aload_n hx hb dX4_append_47 rfl (lv_at hl 0 rfl) ?_
      obtain ⟨v8, q, h⟩ := ho_bd h
      refine hw_gi X hP LX4 fX4_28 rfl q dX4_append_48 ?_
      refine lv_iload_n hx hb dX4_append_51 rfl (lv_at hl 3 rfl) ?_
      obtain ⟨z, q, h⟩ := ho_bd h
      refine hw_si X hP hS q dX4_append_52 (fun H locs hP hS => ?_)
      refine lv_aload_n hx hb dX4_append_53 rfl (lv_at hl 0 rfl) ?_
      refine lv_dup hx hb dX4_append_54 rfl ?_
      obtain ⟨v9, q, h⟩ := ho_bd h
      refine hw_gi X hP LX4 fX4_28 rfl q dX4_append_55 ?_
      refine lv_iconst (v := 1) hx hb dX4_append_58 (by decide) ?_
      refine lv_iadd hx hb dX4_append_59 ?_
      obtain ⟨z, q, h⟩ := ho_bd h
      refine hw_pi X hP hS LX4 fX4_28 rfl rfl rfl q dX4_append_60 (fun H locs hP hS => ?_)
      refine lv_aload_n hx hb dX4_append_63 rfl (lv_at hl 0 rfl) ?_
      obtain ⟨v10, q, h⟩ := ho_bd h
      refine hw_gi X hP LX4 fX4_28 rfl q dX4_append_64 ?_
      exact hw_iret X hP hS hr hlocks h dX4_append_67
    · replace h := ho_in hc h
      refine lv_bipush (v := (-3)) hx hb dX4_append_20 (by decide) ?_
      exact hw_iret X hP hS hr hlocks h dX4_append_22
  · replace h := ho_in hc h
    refine lv_bipush (v := (-4)) hx hb dX4_append_8 (by decide) ?_
    exact hw_iret X hP hS hr hlocks h dX4_append_10
def f_X6_append (fu : Nat) (a0 : Nat) (x1 : Int32) (x2 : Int32) (x3 : Int32) (x4 : Int32) (z : hp_S) : Option (Int32 × hp_S) :=
  (ho_gr 6 a0 0 z).bind fun r1 =>
  (ho_lr 4 r1 x1 z).bind fun r2 =>
  (ho_is 4 r2 z).bind fun _ =>
  (f_X4_append fu r2 x2 x3 x4 z).bind fun ⟨v3, z⟩ =>
  (ho_gr 6 a0 1 z).bind fun r4 =>
  (ho_gr 6 a0 0 z).bind fun r5 =>
  (ho_gi 6 a0 8 z).bind fun v6 =>
  (ho_is 5 r4 z).bind fun _ =>
  (f_X5_gather fu r4 r5 v6 z).bind fun z =>
  some (v3, z)
set_option maxHeartbeats 4000000 in
set_option maxRecDepth 100000 in
theorem c_X6_append (l : Launch) (G : hp_G) (fu : Nat) (a0 : Nat) (x1 : Int32) (x2 : Int32) (x3 : Int32) (x4 : Int32) (z : hp_S) (rq : Int32) (zq : hp_S) (h : f_X6_append fu a0 x1 x2 x3 x4 z = some (rq, zq)) : hp_M l G yX6_append cX6_append 6 (some .int) 4 88 0 0 [.ref a0, .int x1, .int x2, .int x3, .int x4] z (hp_Qi G rq zq) := by
  refine hp_M.of (by decide) (Nat.le_of_ble_eq_true rfl) ?_
  intro p e s m below meth c X hr hlocks hnm hP hS ls hl
  have X : hp_C G cX6_append RX6 6 p s m c := X
  have hl : lv_has ls 6 [(0, .ref a0), (1, .int x1), (2, .int x2), (3, .int x3), (4, .int x4)] := hl
  have hx := X.1
  have hb := X.2.1
  unfold f_X6_append at h
  refine lv_aload_n hx hb dX6_append_0 rfl (lv_at hl 0 rfl) ?_
  obtain ⟨r1, q, h⟩ := ho_bd h
  refine hw_gr X hP LX6 fX6_20 rfl q dX6_append_1 ?_
  refine lv_iload_n hx hb dX6_append_4 rfl (lv_at hl 1 rfl) ?_
  obtain ⟨r2, q, h⟩ := ho_bd h
  refine hw_lr (t0 := 2) X hP rfl q dX6_append_5 ?_
  refine lv_iload_n hx hb dX6_append_6 rfl (lv_at hl 2 rfl) ?_
  refine lv_iload_n hx hb dX6_append_7 rfl (lv_at hl 3 rfl) ?_
  refine lv_iload hx hb dX6_append_8 (lv_at hl 4 rfl) ?_
  obtain ⟨_, hs, h⟩ := ho_bd h
  obtain ⟨⟨v3, z⟩, q, h⟩ := ho_bd h
  refine hw_ci hS (hp_runV (As := [.int x2, .int x3, .int x4]) (rest := []) X hP hS hl.1 LX4 (ho_is_s hs) kX6_199 ⟨m2_45, m2_46⟩ (c_X4_append l G fu r2 x2 x3 x4 _ _ _ q) rfl (Nat.le_of_ble_eq_true rfl) ⟨⟨Nat.le_of_ble_eq_true rfl, Nat.le_of_ble_eq_true rfl⟩, Nat.le_of_ble_eq_true rfl, Nat.le_of_ble_eq_true rfl⟩ dX6_append_10) (fun H locs hP hS => ?_)
  refine lv_istore (lv' := [(5, .int v3), (0, .ref a0), (1, .int x1), (2, .int x2), (3, .int x3), (4, .int x4)]) hx hb dX6_append_13 hl (by decide) rfl (fun ls hl => ?_)
  refine lv_aload_n hx hb dX6_append_15 rfl (lv_at hl 1 rfl) ?_
  obtain ⟨r4, q, h⟩ := ho_bd h
  refine hw_gr X hP LX6 fX6_28 rfl q dX6_append_16 ?_
  refine lv_aload_n hx hb dX6_append_19 rfl (lv_at hl 1 rfl) ?_
  obtain ⟨r5, q, h⟩ := ho_bd h
  refine hw_gr X hP LX6 fX6_20 rfl q dX6_append_20 ?_
  refine lv_aload_n hx hb dX6_append_23 rfl (lv_at hl 1 rfl) ?_
  obtain ⟨v6, q, h⟩ := ho_bd h
  refine hw_gi X hP LX6 fX6_83 rfl q dX6_append_24 ?_
  obtain ⟨_, hs, h⟩ := ho_bd h
  obtain ⟨z, q, h⟩ := ho_bd h
  refine hw_cv hS (hp_runV (As := [.ref r5, .int v6]) (rest := []) X hP hS hl.1 LX5 (ho_is_s hs) kX6_86 ⟨m2_0, m2_1⟩ (c_X5_gather l G fu r4 r5 v6 _ _ q) rfl (Nat.le_of_ble_eq_true rfl) ⟨⟨Nat.le_of_ble_eq_true rfl, Nat.le_of_ble_eq_true rfl⟩, Nat.le_of_ble_eq_true rfl, Nat.le_of_ble_eq_true rfl⟩ dX6_append_27) (fun H locs hP hS => ?_)
  refine lv_iload hx hb dX6_append_30 (lv_at hl 0 rfl) ?_
  exact hw_iret X hP hS hr hlocks h dX6_append_32
def f_X6_note_B36 (fu : Nat) (a0 : Nat) (x1 : Int32) (x2 : Int32) (x3 : Int32) (x4 : Int32) (z : hp_S) : Option (Int32 × hp_S) :=
  some ((-2), z)
def f_X6_note (fu : Nat) (a0 : Nat) (x1 : Int32) (x2 : Int32) (x3 : Int32) (x4 : Int32) (z : hp_S) : Option (Int32 × hp_S) :=
  (ho_is 6 a0 z).bind fun _ =>
  (f_X6_isVoice fu a0 x1 z).bind fun ⟨v1, z⟩ =>
  if v1 = 0 then (
    f_X6_note_B36 fu a0 x1 x2 x3 x4  z
  ) else (
    (f_X6_isTime fu x2 z).bind fun ⟨v2, z⟩ =>
    if v2 = 0 then (
      f_X6_note_B36 fu a0 x1 x2 x3 x4  z
    ) else (
      (f_X6_within fu x3 0 55 z).bind fun ⟨v3, z⟩ =>
      if v3 = 0 then (
        f_X6_note_B36 fu a0 x1 x2 x3 x4  z
      ) else (
        (f_X6_within fu x4 (-2) 2 z).bind fun ⟨v4, z⟩ =>
        if v4 = 0 then (
          f_X6_note_B36 fu a0 x1 x2 x3 x4  z
        ) else (
          (ho_is 6 a0 z).bind fun _ =>
          (f_X6_append fu a0 x1 x2 x3 x4 z).bind fun ⟨v5, z⟩ =>
          some (v5, z)
        )
      )
    )
  )
set_option maxHeartbeats 4000000 in
set_option maxRecDepth 100000 in
theorem c_X6_note (l : Launch) (G : hp_G) (fu : Nat) (a0 : Nat) (x1 : Int32) (x2 : Int32) (x3 : Int32) (x4 : Int32) (z : hp_S) (rq : Int32) (zq : hp_S) (h : f_X6_note fu a0 x1 x2 x3 x4 z = some (rq, zq)) : hp_M l G yX6_note cX6_note 5 (some .int) 5 113 0 0 [.ref a0, .int x1, .int x2, .int x3, .int x4] z (hp_Qi G rq zq) := by
  refine hp_M.of (by decide) (Nat.le_of_ble_eq_true rfl) ?_
  intro p e s m below meth c X hr hlocks hnm hP hS ls hl
  have X : hp_C G cX6_note RX6 5 p s m c := X
  have hl : lv_has ls 5 [(0, .ref a0), (1, .int x1), (2, .int x2), (3, .int x3), (4, .int x4)] := hl
  have hx := X.1
  have hb := X.2.1
  have B36 : ∀ (z : hp_S) (H : Heap) (locs : List Loc) (ls : Array Slot), f_X6_note_B36 fu a0 x1 x2 x3 x4 z = some (rq, zq) → hp_P G z H → va_S (hp_A G) s.heap H locs → lv_has ls 5 [(0, .ref a0), (1, .int x1), (2, .int x2), (3, .int x3), (4, .int x4)] → W p l e (hp_rm 5 113 0 0) s m [.ref a0, .int x1, .int x2, .int x3, .int x4].toArray below meth c H locs 0 0 (MQ below (hp_Qi G rq zq) [.ref a0, .int x1, .int x2, .int x3, .int x4].toArray s 0 0 (hp_A G)) (F0 m 36 ls []) := by
    intro z H locs ls h hP hS hl
    unfold f_X6_note_B36 at h
    refine lv_bipush (v := (-2)) hx hb dX6_note_36 (by decide) ?_
    exact hw_iret X hP hS hr hlocks h dX6_note_38
  unfold f_X6_note at h
  refine lv_aload_n hx hb dX6_note_0 rfl (lv_at hl 0 rfl) ?_
  refine lv_iload_n hx hb dX6_note_1 rfl (lv_at hl 1 rfl) ?_
  obtain ⟨_, hs, h⟩ := ho_bd h
  obtain ⟨⟨v1, z⟩, q, h⟩ := ho_bd h
  refine hw_ci hS (hp_runV (As := [.int x1]) (rest := []) X hP hS hl.1 LX6 (ho_is_s hs) kX6_90 ⟨m2_32, mp_4⟩ (c_X6_isVoice l G fu a0 x1 _ _ _ q) rfl (Nat.le_of_ble_eq_true rfl) ⟨⟨Nat.le_of_ble_eq_true rfl, Nat.le_of_ble_eq_true rfl⟩, Nat.le_of_ble_eq_true rfl, Nat.le_of_ble_eq_true rfl⟩ dX6_note_2) (fun H locs hP hS => ?_)
  refine lv_if_eq (tgt := 36) hx hb dX6_note_5 (by decide) (fun hc => ?_) (fun hc => ?_)
  · replace h := ho_ip hc h
    exact B36 z _ _ _ h hP hS (lv_sub hl [0, 1, 2, 3, 4] rfl)
  · replace h := ho_in hc h
    refine lv_iload_n hx hb dX6_note_8 rfl (lv_at hl 2 rfl) ?_
    obtain ⟨⟨v2, z⟩, q, h⟩ := ho_bd h
    refine hw_ci hS (hp_runS (As := [.int x2]) (rest := []) X hP hS hl.1 kX6_94 m2_38 (c_X6_isTime l G fu x2 _ _ _ q) rfl (Nat.le_of_ble_eq_true rfl) ⟨⟨Nat.le_of_ble_eq_true rfl, Nat.le_of_ble_eq_true rfl⟩, Nat.le_of_ble_eq_true rfl, Nat.le_of_ble_eq_true rfl⟩ dX6_note_9) (fun H locs hP hS => ?_)
    refine lv_if_eq (tgt := 36) hx hb dX6_note_12 (by decide) (fun hc => ?_) (fun hc => ?_)
    · replace h := ho_ip hc h
      exact B36 z _ _ _ h hP hS (lv_sub hl [0, 1, 2, 3, 4] rfl)
    · replace h := ho_in hc h
      refine lv_iload_n hx hb dX6_note_15 rfl (lv_at hl 3 rfl) ?_
      refine lv_iconst (v := 0) hx hb dX6_note_16 (by decide) ?_
      refine lv_bipush (v := 55) hx hb dX6_note_17 (by decide) ?_
      obtain ⟨⟨v3, z⟩, q, h⟩ := ho_bd h
      refine hw_ci hS (hp_runS (As := [.int x3, .int 0, .int 55]) (rest := []) X hP hS hl.1 kX6_97 m2_35 (c_X6_within l G fu x3 0 55 _ _ _ q) rfl (Nat.le_of_ble_eq_true rfl) ⟨⟨Nat.le_of_ble_eq_true rfl, Nat.le_of_ble_eq_true rfl⟩, Nat.le_of_ble_eq_true rfl, Nat.le_of_ble_eq_true rfl⟩ dX6_note_19) (fun H locs hP hS => ?_)
      refine lv_if_eq (tgt := 36) hx hb dX6_note_22 (by decide) (fun hc => ?_) (fun hc => ?_)
      · replace h := ho_ip hc h
        exact B36 z _ _ _ h hP hS (lv_sub hl [0, 1, 2, 3, 4] rfl)
      · replace h := ho_in hc h
        refine lv_iload hx hb dX6_note_25 (lv_at hl 4 rfl) ?_
        refine lv_bipush (v := (-2)) hx hb dX6_note_27 (by decide) ?_
        refine lv_iconst (v := 2) hx hb dX6_note_29 (by decide) ?_
        obtain ⟨⟨v4, z⟩, q, h⟩ := ho_bd h
        refine hw_ci hS (hp_runS (As := [.int x4, .int (-2), .int 2]) (rest := []) X hP hS hl.1 kX6_97 m2_35 (c_X6_within l G fu x4 (-2) 2 _ _ _ q) rfl (Nat.le_of_ble_eq_true rfl) ⟨⟨Nat.le_of_ble_eq_true rfl, Nat.le_of_ble_eq_true rfl⟩, Nat.le_of_ble_eq_true rfl, Nat.le_of_ble_eq_true rfl⟩ dX6_note_30) (fun H locs hP hS => ?_)
        refine lv_if_ne (tgt := 39) hx hb dX6_note_33 (by decide) (fun hc => ?_) (fun hc => ?_)
        · replace h := ho_in hc h
          refine lv_aload_n hx hb dX6_note_39 rfl (lv_at hl 0 rfl) ?_
          refine lv_iload_n hx hb dX6_note_40 rfl (lv_at hl 1 rfl) ?_
          refine lv_iload_n hx hb dX6_note_41 rfl (lv_at hl 2 rfl) ?_
          refine lv_iload_n hx hb dX6_note_42 rfl (lv_at hl 3 rfl) ?_
          refine lv_iload hx hb dX6_note_43 (lv_at hl 4 rfl) ?_
          obtain ⟨_, hs, h⟩ := ho_bd h
          obtain ⟨⟨v5, z⟩, q, h⟩ := ho_bd h
          refine hw_ci hS (hp_runV (As := [.int x1, .int x2, .int x3, .int x4]) (rest := []) X hP hS hl.1 LX6 (ho_is_s hs) kX6_101 ⟨m2_42, mp_5⟩ (c_X6_append l G fu a0 x1 x2 x3 x4 _ _ _ q) rfl (Nat.le_of_ble_eq_true rfl) ⟨⟨Nat.le_of_ble_eq_true rfl, Nat.le_of_ble_eq_true rfl⟩, Nat.le_of_ble_eq_true rfl, Nat.le_of_ble_eq_true rfl⟩ dX6_note_45) (fun H locs hP hS => ?_)
          exact hw_iret X hP hS hr hlocks h dX6_note_48
        · replace h := ho_ip hc h
          exact B36 z _ _ _ h hP hS (lv_sub hl [0, 1, 2, 3, 4] rfl)
def f_X6_rest_B15 (fu : Nat) (a0 : Nat) (x1 : Int32) (x2 : Int32) (z : hp_S) : Option (Int32 × hp_S) :=
  some ((-2), z)
def f_X6_rest (fu : Nat) (a0 : Nat) (x1 : Int32) (x2 : Int32) (z : hp_S) : Option (Int32 × hp_S) :=
  (ho_is 6 a0 z).bind fun _ =>
  (f_X6_isVoice fu a0 x1 z).bind fun ⟨v1, z⟩ =>
  if v1 = 0 then (
    f_X6_rest_B15 fu a0 x1 x2  z
  ) else (
    (f_X6_isTime fu x2 z).bind fun ⟨v2, z⟩ =>
    if v2 = 0 then (
      f_X6_rest_B15 fu a0 x1 x2  z
    ) else (
      (ho_is 6 a0 z).bind fun _ =>
      (f_X6_append fu a0 x1 x2 (-1) 0 z).bind fun ⟨v3, z⟩ =>
      some (v3, z)
    )
  )
set_option maxHeartbeats 4000000 in
set_option maxRecDepth 100000 in
theorem c_X6_rest (l : Launch) (G : hp_G) (fu : Nat) (a0 : Nat) (x1 : Int32) (x2 : Int32) (z : hp_S) (rq : Int32) (zq : hp_S) (h : f_X6_rest fu a0 x1 x2 z = some (rq, zq)) : hp_M l G yX6_rest cX6_rest 3 (some .int) 5 113 0 0 [.ref a0, .int x1, .int x2] z (hp_Qi G rq zq) := by
  refine hp_M.of (by decide) (Nat.le_of_ble_eq_true rfl) ?_
  intro p e s m below meth c X hr hlocks hnm hP hS ls hl
  have X : hp_C G cX6_rest RX6 3 p s m c := X
  have hl : lv_has ls 3 [(0, .ref a0), (1, .int x1), (2, .int x2)] := hl
  have hx := X.1
  have hb := X.2.1
  have B15 : ∀ (z : hp_S) (H : Heap) (locs : List Loc) (ls : Array Slot), f_X6_rest_B15 fu a0 x1 x2 z = some (rq, zq) → hp_P G z H → va_S (hp_A G) s.heap H locs → lv_has ls 3 [(0, .ref a0), (1, .int x1), (2, .int x2)] → W p l e (hp_rm 5 113 0 0) s m [.ref a0, .int x1, .int x2].toArray below meth c H locs 0 0 (MQ below (hp_Qi G rq zq) [.ref a0, .int x1, .int x2].toArray s 0 0 (hp_A G)) (F0 m 15 ls []) := by
    intro z H locs ls h hP hS hl
    unfold f_X6_rest_B15 at h
    refine lv_bipush (v := (-2)) hx hb dX6_rest_15 (by decide) ?_
    exact hw_iret X hP hS hr hlocks h dX6_rest_17
  unfold f_X6_rest at h
  refine lv_aload_n hx hb dX6_rest_0 rfl (lv_at hl 0 rfl) ?_
  refine lv_iload_n hx hb dX6_rest_1 rfl (lv_at hl 1 rfl) ?_
  obtain ⟨_, hs, h⟩ := ho_bd h
  obtain ⟨⟨v1, z⟩, q, h⟩ := ho_bd h
  refine hw_ci hS (hp_runV (As := [.int x1]) (rest := []) X hP hS hl.1 LX6 (ho_is_s hs) kX6_90 ⟨m2_32, mp_4⟩ (c_X6_isVoice l G fu a0 x1 _ _ _ q) rfl (Nat.le_of_ble_eq_true rfl) ⟨⟨Nat.le_of_ble_eq_true rfl, Nat.le_of_ble_eq_true rfl⟩, Nat.le_of_ble_eq_true rfl, Nat.le_of_ble_eq_true rfl⟩ dX6_rest_2) (fun H locs hP hS => ?_)
  refine lv_if_eq (tgt := 15) hx hb dX6_rest_5 (by decide) (fun hc => ?_) (fun hc => ?_)
  · replace h := ho_ip hc h
    exact B15 z _ _ _ h hP hS (lv_sub hl [0, 1, 2] rfl)
  · replace h := ho_in hc h
    refine lv_iload_n hx hb dX6_rest_8 rfl (lv_at hl 2 rfl) ?_
    obtain ⟨⟨v2, z⟩, q, h⟩ := ho_bd h
    refine hw_ci hS (hp_runS (As := [.int x2]) (rest := []) X hP hS hl.1 kX6_94 m2_38 (c_X6_isTime l G fu x2 _ _ _ q) rfl (Nat.le_of_ble_eq_true rfl) ⟨⟨Nat.le_of_ble_eq_true rfl, Nat.le_of_ble_eq_true rfl⟩, Nat.le_of_ble_eq_true rfl, Nat.le_of_ble_eq_true rfl⟩ dX6_rest_9) (fun H locs hP hS => ?_)
    refine lv_if_ne (tgt := 18) hx hb dX6_rest_12 (by decide) (fun hc => ?_) (fun hc => ?_)
    · replace h := ho_in hc h
      refine lv_aload_n hx hb dX6_rest_18 rfl (lv_at hl 0 rfl) ?_
      refine lv_iload_n hx hb dX6_rest_19 rfl (lv_at hl 1 rfl) ?_
      refine lv_iload_n hx hb dX6_rest_20 rfl (lv_at hl 2 rfl) ?_
      refine lv_iconst (v := (-1)) hx hb dX6_rest_21 (by decide) ?_
      refine lv_iconst (v := 0) hx hb dX6_rest_22 (by decide) ?_
      obtain ⟨_, hs, h⟩ := ho_bd h
      obtain ⟨⟨v3, z⟩, q, h⟩ := ho_bd h
      refine hw_ci hS (hp_runV (As := [.int x1, .int x2, .int (-1), .int 0]) (rest := []) X hP hS hl.1 LX6 (ho_is_s hs) kX6_101 ⟨m2_42, mp_5⟩ (c_X6_append l G fu a0 x1 x2 (-1) 0 _ _ _ q) rfl (Nat.le_of_ble_eq_true rfl) ⟨⟨Nat.le_of_ble_eq_true rfl, Nat.le_of_ble_eq_true rfl⟩, Nat.le_of_ble_eq_true rfl, Nat.le_of_ble_eq_true rfl⟩ dX6_rest_23) (fun H locs hP hS => ?_)
      exact hw_iret X hP hS hr hlocks h dX6_rest_26
    · replace h := ho_ip hc h
      exact B15 z _ _ _ h hP hS (lv_sub hl [0, 1, 2] rfl)
def f_X4_dropLast (fu : Nat) (a0 : Nat) (z : hp_S) : Option (Int32 × hp_S) :=
  (ho_gi 4 a0 3 z).bind fun v1 =>
  if v1 = 0 then (
    some ((-1), z)
  ) else (
    (ho_gi 4 a0 3 z).bind fun v2 =>
    (ho_pi 4 a0 3 (v2 - 1) z).bind fun z =>
    (ho_gi 4 a0 3 z).bind fun v3 =>
    some (v3, z)
  )
set_option maxHeartbeats 4000000 in
set_option maxRecDepth 100000 in
theorem c_X4_dropLast (l : Launch) (G : hp_G) (fu : Nat) (a0 : Nat) (z : hp_S) (rq : Int32) (zq : hp_S) (h : f_X4_dropLast fu a0 z = some (rq, zq)) : hp_M l G yX4_dropLast cX4_dropLast 1 (some .int) 0 0 0 0 [.ref a0] z (hp_Qi G rq zq) := by
  refine hp_M.of (by decide) (Nat.le_of_ble_eq_true rfl) ?_
  intro p e s m below meth c X hr hlocks hnm hP hS ls hl
  have X : hp_C G cX4_dropLast RX4 1 p s m c := X
  have hl : lv_has ls 1 [(0, .ref a0)] := hl
  have hx := X.1
  have hb := X.2.1
  unfold f_X4_dropLast at h
  refine lv_aload_n hx hb dX4_dropLast_0 rfl (lv_at hl 0 rfl) ?_
  obtain ⟨v1, q, h⟩ := ho_bd h
  refine hw_gi X hP LX4 fX4_28 rfl q dX4_dropLast_1 ?_
  refine lv_if_ne (tgt := 9) hx hb dX4_dropLast_4 (by decide) (fun hc => ?_) (fun hc => ?_)
  · replace h := ho_in hc h
    refine lv_aload_n hx hb dX4_dropLast_9 rfl (lv_at hl 0 rfl) ?_
    refine lv_dup hx hb dX4_dropLast_10 rfl ?_
    obtain ⟨v2, q, h⟩ := ho_bd h
    refine hw_gi X hP LX4 fX4_28 rfl q dX4_dropLast_11 ?_
    refine lv_iconst (v := 1) hx hb dX4_dropLast_14 (by decide) ?_
    refine lv_isub hx hb dX4_dropLast_15 ?_
    obtain ⟨z, q, h⟩ := ho_bd h
    refine hw_pi X hP hS LX4 fX4_28 rfl rfl rfl q dX4_dropLast_16 (fun H locs hP hS => ?_)
    refine lv_aload_n hx hb dX4_dropLast_19 rfl (lv_at hl 0 rfl) ?_
    obtain ⟨v3, q, h⟩ := ho_bd h
    refine hw_gi X hP LX4 fX4_28 rfl q dX4_dropLast_20 ?_
    exact hw_iret X hP hS hr hlocks h dX4_dropLast_23
  · replace h := ho_ip hc h
    refine lv_iconst (v := (-1)) hx hb dX4_dropLast_7 (by decide) ?_
    exact hw_iret X hP hS hr hlocks h dX4_dropLast_8
def f_X6_take (fu : Nat) (a0 : Nat) (x1 : Int32) (z : hp_S) : Option (Int32 × hp_S) :=
  (ho_is 6 a0 z).bind fun _ =>
  (f_X6_isVoice fu a0 x1 z).bind fun ⟨v1, z⟩ =>
  if v1 = 0 then (
    some ((-2), z)
  ) else (
    (ho_gr 6 a0 0 z).bind fun r2 =>
    (ho_lr 4 r2 x1 z).bind fun r3 =>
    (ho_is 4 r3 z).bind fun _ =>
    (f_X4_dropLast fu r3 z).bind fun ⟨v4, z⟩ =>
    (ho_gr 6 a0 1 z).bind fun r5 =>
    (ho_gr 6 a0 0 z).bind fun r6 =>
    (ho_gi 6 a0 8 z).bind fun v7 =>
    (ho_is 5 r5 z).bind fun _ =>
    (f_X5_gather fu r5 r6 v7 z).bind fun z =>
    some (v4, z)
  )
set_option maxHeartbeats 4000000 in
set_option maxRecDepth 100000 in
theorem c_X6_take (l : Launch) (G : hp_G) (fu : Nat) (a0 : Nat) (x1 : Int32) (z : hp_S) (rq : Int32) (zq : hp_S) (h : f_X6_take fu a0 x1 z = some (rq, zq)) : hp_M l G yX6_take cX6_take 3 (some .int) 4 88 0 0 [.ref a0, .int x1] z (hp_Qi G rq zq) := by
  refine hp_M.of (by decide) (Nat.le_of_ble_eq_true rfl) ?_
  intro p e s m below meth c X hr hlocks hnm hP hS ls hl
  have X : hp_C G cX6_take RX6 3 p s m c := X
  have hl : lv_has ls 3 [(0, .ref a0), (1, .int x1)] := hl
  have hx := X.1
  have hb := X.2.1
  unfold f_X6_take at h
  refine lv_aload_n hx hb dX6_take_0 rfl (lv_at hl 0 rfl) ?_
  refine lv_iload_n hx hb dX6_take_1 rfl (lv_at hl 1 rfl) ?_
  obtain ⟨_, hs, h⟩ := ho_bd h
  obtain ⟨⟨v1, z⟩, q, h⟩ := ho_bd h
  refine hw_ci hS (hp_runV (As := [.int x1]) (rest := []) X hP hS hl.1 LX6 (ho_is_s hs) kX6_90 ⟨m2_32, mp_4⟩ (c_X6_isVoice l G fu a0 x1 _ _ _ q) rfl (Nat.le_of_ble_eq_true rfl) ⟨⟨Nat.le_of_ble_eq_true rfl, Nat.le_of_ble_eq_true rfl⟩, Nat.le_of_ble_eq_true rfl, Nat.le_of_ble_eq_true rfl⟩ dX6_take_2) (fun H locs hP hS => ?_)
  refine lv_if_ne (tgt := 11) hx hb dX6_take_5 (by decide) (fun hc => ?_) (fun hc => ?_)
  · replace h := ho_in hc h
    refine lv_aload_n hx hb dX6_take_11 rfl (lv_at hl 0 rfl) ?_
    obtain ⟨r2, q, h⟩ := ho_bd h
    refine hw_gr X hP LX6 fX6_20 rfl q dX6_take_12 ?_
    refine lv_iload_n hx hb dX6_take_15 rfl (lv_at hl 1 rfl) ?_
    obtain ⟨r3, q, h⟩ := ho_bd h
    refine hw_lr (t0 := 2) X hP rfl q dX6_take_16 ?_
    obtain ⟨_, hs, h⟩ := ho_bd h
    obtain ⟨⟨v4, z⟩, q, h⟩ := ho_bd h
    refine hw_ci hS (hp_runV (As := []) (rest := []) X hP hS hl.1 LX4 (ho_is_s hs) kX6_105 ⟨m2_58, m2_59⟩ (c_X4_dropLast l G fu r3 _ _ _ q) rfl (Nat.le_of_ble_eq_true rfl) ⟨⟨Nat.le_of_ble_eq_true rfl, Nat.le_of_ble_eq_true rfl⟩, Nat.le_of_ble_eq_true rfl, Nat.le_of_ble_eq_true rfl⟩ dX6_take_17) (fun H locs hP hS => ?_)
    refine lv_istore_n (lv' := [(2, .int v4), (0, .ref a0), (1, .int x1)]) hx hb dX6_take_20 rfl hl (by decide) rfl (fun ls hl => ?_)
    refine lv_aload_n hx hb dX6_take_21 rfl (lv_at hl 1 rfl) ?_
    obtain ⟨r5, q, h⟩ := ho_bd h
    refine hw_gr X hP LX6 fX6_28 rfl q dX6_take_22 ?_
    refine lv_aload_n hx hb dX6_take_25 rfl (lv_at hl 1 rfl) ?_
    obtain ⟨r6, q, h⟩ := ho_bd h
    refine hw_gr X hP LX6 fX6_20 rfl q dX6_take_26 ?_
    refine lv_aload_n hx hb dX6_take_29 rfl (lv_at hl 1 rfl) ?_
    obtain ⟨v7, q, h⟩ := ho_bd h
    refine hw_gi X hP LX6 fX6_83 rfl q dX6_take_30 ?_
    obtain ⟨_, hs, h⟩ := ho_bd h
    obtain ⟨z, q, h⟩ := ho_bd h
    refine hw_cv hS (hp_runV (As := [.ref r6, .int v7]) (rest := []) X hP hS hl.1 LX5 (ho_is_s hs) kX6_86 ⟨m2_0, m2_1⟩ (c_X5_gather l G fu r5 r6 v7 _ _ q) rfl (Nat.le_of_ble_eq_true rfl) ⟨⟨Nat.le_of_ble_eq_true rfl, Nat.le_of_ble_eq_true rfl⟩, Nat.le_of_ble_eq_true rfl, Nat.le_of_ble_eq_true rfl⟩ dX6_take_33) (fun H locs hP hS => ?_)
    refine lv_iload_n hx hb dX6_take_36 rfl (lv_at hl 0 rfl) ?_
    exact hw_iret X hP hS hr hlocks h dX6_take_37
  · replace h := ho_ip hc h
    refine lv_bipush (v := (-2)) hx hb dX6_take_8 (by decide) ?_
    exact hw_iret X hP hS hr hlocks h dX6_take_10
def f_X6_isKind (fu : Nat) (x0 : Int32) (z : hp_S) : Option (Int32 × hp_S) :=
  (f_X6_within fu x0 0 13 z).bind fun ⟨v1, z⟩ =>
  if vp_nar .boolean v1 = v1 then some (v1, z) else none
set_option maxHeartbeats 4000000 in
set_option maxRecDepth 100000 in
theorem c_X6_isKind (l : Launch) (G : hp_G) (fu : Nat) (x0 : Int32) (z : hp_S) (rq : Int32) (zq : hp_S) (h : f_X6_isKind fu x0 z = some (rq, zq)) : hp_M l G yX6_isKind cX6_isKind 1 (some .boolean) 1 22 0 0 [.int x0] z (hp_Qi G rq zq) := by
  refine hp_M.of (by decide) (Nat.le_of_ble_eq_true rfl) ?_
  intro p e s m below meth c X hr hlocks hnm hP hS ls hl
  have X : hp_C G cX6_isKind RX6 1 p s m c := X
  have hl : lv_has ls 1 [(0, .int x0)] := hl
  have hx := X.1
  have hb := X.2.1
  unfold f_X6_isKind at h
  refine lv_iload_n hx hb dX6_isKind_0 rfl (lv_at hl 0 rfl) ?_
  refine lv_iconst (v := 0) hx hb dX6_isKind_1 (by decide) ?_
  refine lv_bipush (v := 13) hx hb dX6_isKind_2 (by decide) ?_
  obtain ⟨⟨v1, z⟩, q, h⟩ := ho_bd h
  refine hw_ci hS (hp_runS (As := [.int x0, .int 0, .int 13]) (rest := []) X hP hS hl.1 kX6_97 m2_35 (c_X6_within l G fu x0 0 13 _ _ _ q) rfl (Nat.le_of_ble_eq_true rfl) ⟨⟨Nat.le_of_ble_eq_true rfl, Nat.le_of_ble_eq_true rfl⟩, Nat.le_of_ble_eq_true rfl, Nat.le_of_ble_eq_true rfl⟩ dX6_isKind_4) (fun H locs hP hS => ?_)
  exact hw_zret X hP hS hr hlocks h dX6_isKind_7
def f_X6_rule_B16 (fu : Nat) (a0 : Nat) (x1 : Int32) (x2 : Int32) (z : hp_S) : Option (Int32 × hp_S) :=
  some ((-2), z)
def f_X6_rule (fu : Nat) (a0 : Nat) (x1 : Int32) (x2 : Int32) (z : hp_S) : Option (Int32 × hp_S) :=
  (f_X6_isKind fu x1 z).bind fun ⟨v1, z⟩ =>
  if v1 = 0 then (
    f_X6_rule_B16 fu a0 x1 x2  z
  ) else (
    (f_X6_within fu x2 0 1 z).bind fun ⟨v2, z⟩ =>
    if v2 = 0 then (
      f_X6_rule_B16 fu a0 x1 x2  z
    ) else (
      (ho_gi 6 a0 6 z).bind fun v3 =>
      (ho_id ((v3 >>> (x1 &&& 31)) &&& 1)).bind fun v4 =>
      (ho_gi 6 a0 6 z).bind fun v5 =>
      (ho_pi 6 a0 6 ((v5 &&& ((1 <<< (x1 &&& 31)) ^^^ (-1))) ||| (x2 <<< (x1 &&& 31))) z).bind fun z =>
      some (v4, z)
    )
  )
set_option maxHeartbeats 4000000 in
set_option maxRecDepth 100000 in
theorem c_X6_rule (l : Launch) (G : hp_G) (fu : Nat) (a0 : Nat) (x1 : Int32) (x2 : Int32) (z : hp_S) (rq : Int32) (zq : hp_S) (h : f_X6_rule fu a0 x1 x2 z = some (rq, zq)) : hp_M l G yX6_rule cX6_rule 4 (some .int) 2 42 0 0 [.ref a0, .int x1, .int x2] z (hp_Qi G rq zq) := by
  refine hp_M.of (by decide) (Nat.le_of_ble_eq_true rfl) ?_
  intro p e s m below meth c X hr hlocks hnm hP hS ls hl
  have X : hp_C G cX6_rule RX6 4 p s m c := X
  have hl : lv_has ls 4 [(0, .ref a0), (1, .int x1), (2, .int x2)] := hl
  have hx := X.1
  have hb := X.2.1
  have B16 : ∀ (z : hp_S) (H : Heap) (locs : List Loc) (ls : Array Slot), f_X6_rule_B16 fu a0 x1 x2 z = some (rq, zq) → hp_P G z H → va_S (hp_A G) s.heap H locs → lv_has ls 4 [(0, .ref a0), (1, .int x1), (2, .int x2)] → W p l e (hp_rm 2 42 0 0) s m [.ref a0, .int x1, .int x2].toArray below meth c H locs 0 0 (MQ below (hp_Qi G rq zq) [.ref a0, .int x1, .int x2].toArray s 0 0 (hp_A G)) (F0 m 16 ls []) := by
    intro z H locs ls h hP hS hl
    unfold f_X6_rule_B16 at h
    refine lv_bipush (v := (-2)) hx hb dX6_rule_16 (by decide) ?_
    exact hw_iret X hP hS hr hlocks h dX6_rule_18
  unfold f_X6_rule at h
  refine lv_iload_n hx hb dX6_rule_0 rfl (lv_at hl 1 rfl) ?_
  obtain ⟨⟨v1, z⟩, q, h⟩ := ho_bd h
  refine hw_ci hS (hp_runS (As := [.int x1]) (rest := []) X hP hS hl.1 kX6_109 m2_66 (c_X6_isKind l G fu x1 _ _ _ q) rfl (Nat.le_of_ble_eq_true rfl) ⟨⟨Nat.le_of_ble_eq_true rfl, Nat.le_of_ble_eq_true rfl⟩, Nat.le_of_ble_eq_true rfl, Nat.le_of_ble_eq_true rfl⟩ dX6_rule_1) (fun H locs hP hS => ?_)
  refine lv_if_eq (tgt := 16) hx hb dX6_rule_4 (by decide) (fun hc => ?_) (fun hc => ?_)
  · replace h := ho_ip hc h
    exact B16 z _ _ _ h hP hS (lv_sub hl [0, 1, 2] rfl)
  · replace h := ho_in hc h
    refine lv_iload_n hx hb dX6_rule_7 rfl (lv_at hl 2 rfl) ?_
    refine lv_iconst (v := 0) hx hb dX6_rule_8 (by decide) ?_
    refine lv_iconst (v := 1) hx hb dX6_rule_9 (by decide) ?_
    obtain ⟨⟨v2, z⟩, q, h⟩ := ho_bd h
    refine hw_ci hS (hp_runS (As := [.int x2, .int 0, .int 1]) (rest := []) X hP hS hl.1 kX6_97 m2_35 (c_X6_within l G fu x2 0 1 _ _ _ q) rfl (Nat.le_of_ble_eq_true rfl) ⟨⟨Nat.le_of_ble_eq_true rfl, Nat.le_of_ble_eq_true rfl⟩, Nat.le_of_ble_eq_true rfl, Nat.le_of_ble_eq_true rfl⟩ dX6_rule_10) (fun H locs hP hS => ?_)
    refine lv_if_ne (tgt := 19) hx hb dX6_rule_13 (by decide) (fun hc => ?_) (fun hc => ?_)
    · replace h := ho_in hc h
      refine lv_aload_n hx hb dX6_rule_19 rfl (lv_at hl 0 rfl) ?_
      obtain ⟨v3, q, h⟩ := ho_bd h
      refine hw_gi X hP LX6 fX6_62 rfl q dX6_rule_20 ?_
      refine lv_iload_n hx hb dX6_rule_23 rfl (lv_at hl 1 rfl) ?_
      refine lv_ishr hx hb dX6_rule_24 ?_
      refine lv_iconst (v := 1) hx hb dX6_rule_25 (by decide) ?_
      refine lv_iand hx hb dX6_rule_26 ?_
      obtain ⟨v4, q, h⟩ := ho_bd h
      refine hw_id q ?_
      refine lv_istore_n (lv' := [(3, .int v4), (0, .ref a0), (1, .int x1), (2, .int x2)]) hx hb dX6_rule_27 rfl hl (by decide) rfl (fun ls hl => ?_)
      refine lv_aload_n hx hb dX6_rule_28 rfl (lv_at hl 1 rfl) ?_
      refine lv_aload_n hx hb dX6_rule_29 rfl (lv_at hl 1 rfl) ?_
      obtain ⟨v5, q, h⟩ := ho_bd h
      refine hw_gi X hP LX6 fX6_62 rfl q dX6_rule_30 ?_
      refine lv_iconst (v := 1) hx hb dX6_rule_33 (by decide) ?_
      refine lv_iload_n hx hb dX6_rule_34 rfl (lv_at hl 2 rfl) ?_
      refine lv_ishl hx hb dX6_rule_35 ?_
      refine lv_iconst (v := (-1)) hx hb dX6_rule_36 (by decide) ?_
      refine lv_ixor hx hb dX6_rule_37 ?_
      refine lv_iand hx hb dX6_rule_38 ?_
      refine lv_iload_n hx hb dX6_rule_39 rfl (lv_at hl 3 rfl) ?_
      refine lv_iload_n hx hb dX6_rule_40 rfl (lv_at hl 2 rfl) ?_
      refine lv_ishl hx hb dX6_rule_41 ?_
      refine lv_ior hx hb dX6_rule_42 ?_
      obtain ⟨z, q, h⟩ := ho_bd h
      refine hw_pi X hP hS LX6 fX6_62 rfl rfl rfl q dX6_rule_43 (fun H locs hP hS => ?_)
      refine lv_iload_n hx hb dX6_rule_46 rfl (lv_at hl 0 rfl) ?_
      exact hw_iret X hP hS hr hlocks h dX6_rule_47
    · replace h := ho_ip hc h
      exact B16 z _ _ _ h hP hS (lv_sub hl [0, 1, 2] rfl)
def f_J6_bitCount (fu : Nat) (x0 : Int32) (z : hp_S) : Option (Int32 × hp_S) :=
  (ho_id (x0 - ((x0.toUInt32 >>> ((1 : Int32).toUInt32 &&& Int32.toUInt32 31)).toInt32 &&& 1431655765))).bind fun v1 =>
  (ho_id ((v1 &&& 858993459) + ((v1.toUInt32 >>> ((2 : Int32).toUInt32 &&& Int32.toUInt32 31)).toInt32 &&& 858993459))).bind fun v2 =>
  (ho_id ((v2 + (v2.toUInt32 >>> ((4 : Int32).toUInt32 &&& Int32.toUInt32 31)).toInt32) &&& 252645135)).bind fun v3 =>
  (ho_id (v3 + (v3.toUInt32 >>> ((8 : Int32).toUInt32 &&& Int32.toUInt32 31)).toInt32)).bind fun v4 =>
  (ho_id (v4 + (v4.toUInt32 >>> ((16 : Int32).toUInt32 &&& Int32.toUInt32 31)).toInt32)).bind fun v5 =>
  some ((v5 &&& 63), z)
set_option maxHeartbeats 4000000 in
set_option maxRecDepth 100000 in
theorem c_J6_bitCount (l : Launch) (G : hp_G) (fu : Nat) (x0 : Int32) (z : hp_S) (rq : Int32) (zq : hp_S) (h : f_J6_bitCount fu x0 z = some (rq, zq)) : hp_M l G yJ6_bitCount cJ6_bitCount 1 (some .int) 0 0 0 0 [.int x0] z (hp_Qi G rq zq) := by
  refine hp_M.of (by decide) (Nat.le_of_ble_eq_true rfl) ?_
  intro p e s m below meth c X hr hlocks hnm hP hS ls hl
  have X : hp_C G cJ6_bitCount RJ6 1 p s m c := X
  have hl : lv_has ls 1 [(0, .int x0)] := hl
  have hx := X.1
  have hb := X.2.1
  unfold f_J6_bitCount at h
  refine lv_iload_n hx hb dJ6_bitCount_0 rfl (lv_at hl 0 rfl) ?_
  refine lv_iload_n hx hb dJ6_bitCount_1 rfl (lv_at hl 0 rfl) ?_
  refine lv_iconst (v := 1) hx hb dJ6_bitCount_2 (by decide) ?_
  refine lv_iushr hx hb dJ6_bitCount_3 rfl ?_
  refine lv_ldcw (v := 1431655765) hx hb X.2.2.1 (hp_use X.2.2.2.2.1 m2_75 _) dJ6_bitCount_4 ?_
  refine lv_iand hx hb dJ6_bitCount_7 ?_
  refine lv_isub hx hb dJ6_bitCount_8 ?_
  obtain ⟨v1, q, h⟩ := ho_bd h
  refine hw_id q ?_
  refine lv_istore_n (lv' := [(0, .int v1)]) hx hb dJ6_bitCount_9 rfl hl (by decide) rfl (fun ls hl => ?_)
  refine lv_iload_n hx hb dJ6_bitCount_10 rfl (lv_at hl 0 rfl) ?_
  refine lv_ldcw (v := 858993459) hx hb X.2.2.1 (hp_use X.2.2.2.2.1 m2_76 _) dJ6_bitCount_11 ?_
  refine lv_iand hx hb dJ6_bitCount_14 ?_
  refine lv_iload_n hx hb dJ6_bitCount_15 rfl (lv_at hl 0 rfl) ?_
  refine lv_iconst (v := 2) hx hb dJ6_bitCount_16 (by decide) ?_
  refine lv_iushr hx hb dJ6_bitCount_17 rfl ?_
  refine lv_ldcw (v := 858993459) hx hb X.2.2.1 (hp_use X.2.2.2.2.1 m2_76 _) dJ6_bitCount_18 ?_
  refine lv_iand hx hb dJ6_bitCount_21 ?_
  refine lv_iadd hx hb dJ6_bitCount_22 ?_
  obtain ⟨v2, q, h⟩ := ho_bd h
  refine hw_id q ?_
  refine lv_istore_n (lv' := [(0, .int v2)]) hx hb dJ6_bitCount_23 rfl hl (by decide) rfl (fun ls hl => ?_)
  refine lv_iload_n hx hb dJ6_bitCount_24 rfl (lv_at hl 0 rfl) ?_
  refine lv_iload_n hx hb dJ6_bitCount_25 rfl (lv_at hl 0 rfl) ?_
  refine lv_iconst (v := 4) hx hb dJ6_bitCount_26 (by decide) ?_
  refine lv_iushr hx hb dJ6_bitCount_27 rfl ?_
  refine lv_iadd hx hb dJ6_bitCount_28 ?_
  refine lv_ldcw (v := 252645135) hx hb X.2.2.1 (hp_use X.2.2.2.2.1 m2_77 _) dJ6_bitCount_29 ?_
  refine lv_iand hx hb dJ6_bitCount_32 ?_
  obtain ⟨v3, q, h⟩ := ho_bd h
  refine hw_id q ?_
  refine lv_istore_n (lv' := [(0, .int v3)]) hx hb dJ6_bitCount_33 rfl hl (by decide) rfl (fun ls hl => ?_)
  refine lv_iload_n hx hb dJ6_bitCount_34 rfl (lv_at hl 0 rfl) ?_
  refine lv_iload_n hx hb dJ6_bitCount_35 rfl (lv_at hl 0 rfl) ?_
  refine lv_bipush (v := 8) hx hb dJ6_bitCount_36 (by decide) ?_
  refine lv_iushr hx hb dJ6_bitCount_38 rfl ?_
  refine lv_iadd hx hb dJ6_bitCount_39 ?_
  obtain ⟨v4, q, h⟩ := ho_bd h
  refine hw_id q ?_
  refine lv_istore_n (lv' := [(0, .int v4)]) hx hb dJ6_bitCount_40 rfl hl (by decide) rfl (fun ls hl => ?_)
  refine lv_iload_n hx hb dJ6_bitCount_41 rfl (lv_at hl 0 rfl) ?_
  refine lv_iload_n hx hb dJ6_bitCount_42 rfl (lv_at hl 0 rfl) ?_
  refine lv_bipush (v := 16) hx hb dJ6_bitCount_43 (by decide) ?_
  refine lv_iushr hx hb dJ6_bitCount_45 rfl ?_
  refine lv_iadd hx hb dJ6_bitCount_46 ?_
  obtain ⟨v5, q, h⟩ := ho_bd h
  refine hw_id q ?_
  refine lv_istore_n (lv' := [(0, .int v5)]) hx hb dJ6_bitCount_47 rfl hl (by decide) rfl (fun ls hl => ?_)
  refine lv_iload_n hx hb dJ6_bitCount_48 rfl (lv_at hl 0 rfl) ?_
  refine lv_bipush (v := 63) hx hb dJ6_bitCount_49 (by decide) ?_
  refine lv_iand hx hb dJ6_bitCount_51 ?_
  exact hw_iret X hP hS hr hlocks h dJ6_bitCount_52
def f_X6_style (fu : Nat) (a0 : Nat) (x1 : Int32) (z : hp_S) : Option (Int32 × hp_S) :=
  (f_X6_within fu x1 0 (5 - 1) z).bind fun ⟨v1, z⟩ =>
  if v1 = 0 then (
    some ((-2), z)
  ) else (
    (ho_tl h_t0 x1).bind fun v2 =>
    (ho_pi 6 a0 6 v2 z).bind fun z =>
    (ho_gi 6 a0 6 z).bind fun v3 =>
    (f_J6_bitCount fu v3 z).bind fun ⟨v4, z⟩ =>
    some (v4, z)
  )
set_option maxHeartbeats 4000000 in
set_option maxRecDepth 100000 in
theorem c_X6_style (l : Launch) (G : hp_G) (fu : Nat) (a0 : Nat) (x1 : Int32) (z : hp_S) (rq : Int32) (zq : hp_S) (h : f_X6_style fu a0 x1 z = some (rq, zq)) : hp_M l G yX6_style cX6_style 2 (some .int) 1 22 0 0 [.ref a0, .int x1] z (hp_Qi G rq zq) := by
  refine hp_M.of (by decide) (Nat.le_of_ble_eq_true rfl) ?_
  intro p e s m below meth c X hr hlocks hnm hP hS ls hl
  have X : hp_C G cX6_style RX6 2 p s m c := X
  have hl : lv_has ls 2 [(0, .ref a0), (1, .int x1)] := hl
  have hx := X.1
  have hb := X.2.1
  unfold f_X6_style at h
  refine lv_iload_n hx hb dX6_style_0 rfl (lv_at hl 1 rfl) ?_
  refine lv_iconst (v := 0) hx hb dX6_style_1 (by decide) ?_
  refine hw_gs (q := h_q0) X hS h_s0 m1_194 dX6_style_2 ?_
  refine hw_tn (v := 5) (q := h_q0) X hS h_s0 rfl dX6_style_5 ?_
  refine lv_iconst (v := 1) hx hb dX6_style_6 (by decide) ?_
  refine lv_isub hx hb dX6_style_7 ?_
  obtain ⟨⟨v1, z⟩, q, h⟩ := ho_bd h
  refine hw_ci hS (hp_runS (As := [.int x1, .int 0, .int (5 - 1)]) (rest := []) X hP hS hl.1 kX6_97 m2_35 (c_X6_within l G fu x1 0 (5 - 1) _ _ _ q) rfl (Nat.le_of_ble_eq_true rfl) ⟨⟨Nat.le_of_ble_eq_true rfl, Nat.le_of_ble_eq_true rfl⟩, Nat.le_of_ble_eq_true rfl, Nat.le_of_ble_eq_true rfl⟩ dX6_style_8) (fun H locs hP hS => ?_)
  refine lv_if_ne (tgt := 17) hx hb dX6_style_11 (by decide) (fun hc => ?_) (fun hc => ?_)
  · replace h := ho_in hc h
    refine lv_aload_n hx hb dX6_style_17 rfl (lv_at hl 0 rfl) ?_
    refine hw_gs (q := h_q0) X hS h_s0 m1_194 dX6_style_18 ?_
    refine lv_iload_n hx hb dX6_style_21 rfl (lv_at hl 1 rfl) ?_
    obtain ⟨v2, q, h⟩ := ho_bd h
    refine hw_tl (q := h_q0) X hS h_s0 q dX6_style_22 ?_
    obtain ⟨z, q, h⟩ := ho_bd h
    refine hw_pi X hP hS LX6 fX6_62 rfl rfl rfl q dX6_style_23 (fun H locs hP hS => ?_)
    refine lv_aload_n hx hb dX6_style_26 rfl (lv_at hl 0 rfl) ?_
    obtain ⟨v3, q, h⟩ := ho_bd h
    refine hw_gi X hP LX6 fX6_62 rfl q dX6_style_27 ?_
    obtain ⟨⟨v4, z⟩, q, h⟩ := ho_bd h
    refine hw_ci hS (hp_runS (As := [.int v3]) (rest := []) X hP hS hl.1 kX6_112 m2_73 (c_J6_bitCount l G fu v3 _ _ _ q) rfl (Nat.le_of_ble_eq_true rfl) ⟨⟨Nat.le_of_ble_eq_true rfl, Nat.le_of_ble_eq_true rfl⟩, Nat.le_of_ble_eq_true rfl, Nat.le_of_ble_eq_true rfl⟩ dX6_style_30) (fun H locs hP hS => ?_)
    exact hw_iret X hP hS hr hlocks h dX6_style_33
  · replace h := ho_ip hc h
    refine lv_bipush (v := (-2)) hx hb dX6_style_14 (by decide) ?_
    exact hw_iret X hP hS hr hlocks h dX6_style_16
def f_X6_key (fu : Nat) (a0 : Nat) (x1 : Int32) (z : hp_S) : Option (Int32 × hp_S) :=
  (f_X6_within fu x1 (-7) 7 z).bind fun ⟨v1, z⟩ =>
  if v1 = 0 then (
    some ((-100), z)
  ) else (
    (ho_gi 6 a0 7 z).bind fun v2 =>
    (ho_pi 6 a0 7 x1 z).bind fun z =>
    some (v2, z)
  )
set_option maxHeartbeats 4000000 in
set_option maxRecDepth 100000 in
theorem c_X6_key (l : Launch) (G : hp_G) (fu : Nat) (a0 : Nat) (x1 : Int32) (z : hp_S) (rq : Int32) (zq : hp_S) (h : f_X6_key fu a0 x1 z = some (rq, zq)) : hp_M l G yX6_key cX6_key 3 (some .int) 1 22 0 0 [.ref a0, .int x1] z (hp_Qi G rq zq) := by
  refine hp_M.of (by decide) (Nat.le_of_ble_eq_true rfl) ?_
  intro p e s m below meth c X hr hlocks hnm hP hS ls hl
  have X : hp_C G cX6_key RX6 3 p s m c := X
  have hl : lv_has ls 3 [(0, .ref a0), (1, .int x1)] := hl
  have hx := X.1
  have hb := X.2.1
  unfold f_X6_key at h
  refine lv_iload_n hx hb dX6_key_0 rfl (lv_at hl 1 rfl) ?_
  refine lv_bipush (v := (-7)) hx hb dX6_key_1 (by decide) ?_
  refine lv_bipush (v := 7) hx hb dX6_key_3 (by decide) ?_
  obtain ⟨⟨v1, z⟩, q, h⟩ := ho_bd h
  refine hw_ci hS (hp_runS (As := [.int x1, .int (-7), .int 7]) (rest := []) X hP hS hl.1 kX6_97 m2_35 (c_X6_within l G fu x1 (-7) 7 _ _ _ q) rfl (Nat.le_of_ble_eq_true rfl) ⟨⟨Nat.le_of_ble_eq_true rfl, Nat.le_of_ble_eq_true rfl⟩, Nat.le_of_ble_eq_true rfl, Nat.le_of_ble_eq_true rfl⟩ dX6_key_5) (fun H locs hP hS => ?_)
  refine lv_if_ne (tgt := 14) hx hb dX6_key_8 (by decide) (fun hc => ?_) (fun hc => ?_)
  · replace h := ho_in hc h
    refine lv_aload_n hx hb dX6_key_14 rfl (lv_at hl 0 rfl) ?_
    obtain ⟨v2, q, h⟩ := ho_bd h
    refine hw_gi X hP LX6 fX6_80 rfl q dX6_key_15 ?_
    refine lv_istore_n (lv' := [(2, .int v2), (0, .ref a0), (1, .int x1)]) hx hb dX6_key_18 rfl hl (by decide) rfl (fun ls hl => ?_)
    refine lv_aload_n hx hb dX6_key_19 rfl (lv_at hl 1 rfl) ?_
    refine lv_iload_n hx hb dX6_key_20 rfl (lv_at hl 2 rfl) ?_
    obtain ⟨z, q, h⟩ := ho_bd h
    refine hw_pi X hP hS LX6 fX6_80 rfl rfl rfl q dX6_key_21 (fun H locs hP hS => ?_)
    refine lv_iload_n hx hb dX6_key_24 rfl (lv_at hl 0 rfl) ?_
    exact hw_iret X hP hS hr hlocks h dX6_key_25
  · replace h := ho_ip hc h
    refine lv_bipush (v := (-100)) hx hb dX6_key_11 (by decide) ?_
    exact hw_iret X hP hS hr hlocks h dX6_key_13
def f_X4_isNote_B15 (fu : Nat) (a0 : Nat) (x1 : Int32) (s0 : Int32) (z : hp_S) : Option (Int32 × hp_S) :=
  if vp_nar .boolean s0 = s0 then some (s0, z) else none
def f_X4_isNote (fu : Nat) (a0 : Nat) (x1 : Int32) (z : hp_S) : Option (Int32 × hp_S) :=
  (ho_gr 4 a0 1 z).bind fun r1 =>
  (ho_li 1 r1 x1 z).bind fun v2 =>
  if v2 = (-1) then (
    f_X4_isNote_B15 fu a0 x1 0 z
  ) else (
    f_X4_isNote_B15 fu a0 x1 1 z
  )
set_option maxHeartbeats 4000000 in
set_option maxRecDepth 100000 in
theorem c_X4_isNote (l : Launch) (G : hp_G) (fu : Nat) (a0 : Nat) (x1 : Int32) (z : hp_S) (rq : Int32) (zq : hp_S) (h : f_X4_isNote fu a0 x1 z = some (rq, zq)) : hp_M l G yX4_isNote cX4_isNote 2 (some .boolean) 0 0 0 0 [.ref a0, .int x1] z (hp_Qi G rq zq) := by
  refine hp_M.of (by decide) (Nat.le_of_ble_eq_true rfl) ?_
  intro p e s m below meth c X hr hlocks hnm hP hS ls hl
  have X : hp_C G cX4_isNote RX4 2 p s m c := X
  have hl : lv_has ls 2 [(0, .ref a0), (1, .int x1)] := hl
  have hx := X.1
  have hb := X.2.1
  have B15 : ∀ (s0 : Int32) (z : hp_S) (H : Heap) (locs : List Loc) (ls : Array Slot), f_X4_isNote_B15 fu a0 x1 s0 z = some (rq, zq) → hp_P G z H → va_S (hp_A G) s.heap H locs → lv_has ls 2 [(0, .ref a0), (1, .int x1)] → W p l e (hp_rm 0 0 0 0) s m [.ref a0, .int x1].toArray below meth c H locs 0 0 (MQ below (hp_Qi G rq zq) [.ref a0, .int x1].toArray s 0 0 (hp_A G)) (F0 m 15 ls [.int s0]) := by
    intro s0 z H locs ls h hP hS hl
    unfold f_X4_isNote_B15 at h
    exact hw_zret X hP hS hr hlocks h dX4_isNote_15
  unfold f_X4_isNote at h
  refine lv_aload_n hx hb dX4_isNote_0 rfl (lv_at hl 0 rfl) ?_
  obtain ⟨r1, q, h⟩ := ho_bd h
  refine hw_gr X hP LX4 fX4_15 rfl q dX4_isNote_1 ?_
  refine lv_iload_n hx hb dX4_isNote_4 rfl (lv_at hl 1 rfl) ?_
  obtain ⟨v2, q, h⟩ := ho_bd h
  refine hw_li X hP q dX4_isNote_5 ?_
  refine lv_iconst (v := (-1)) hx hb dX4_isNote_6 (by decide) ?_
  refine lv_icmp_eq (tgt := 14) hx hb dX4_isNote_7 (by decide) (fun hc => ?_) (fun hc => ?_)
  · replace h := ho_ip hc h
    refine lv_iconst (v := 0) hx hb dX4_isNote_14 (by decide) ?_
    exact B15 0 z _ _ _ h hP hS (lv_sub hl [0, 1] rfl)
  · replace h := ho_in hc h
    refine lv_iconst (v := 1) hx hb dX4_isNote_10 (by decide) ?_
    refine lv_goto (tgt := 15) hx hb dX4_isNote_11 (by decide) ?_
    exact B15 1 z _ _ _ h hP hS (lv_sub hl [0, 1] rfl)
def f_X4_heightOf (fu : Nat) (a0 : Nat) (x1 : Int32) (z : hp_S) : Option (Int32 × hp_S) :=
  (ho_gr 4 a0 1 z).bind fun r1 =>
  (ho_li 1 r1 x1 z).bind fun v2 =>
  if 0 ≤ v2 then (
    (ho_dv v2 7).bind fun v3 =>
    (ho_rm v2 7).bind fun v4 =>
    (ho_tl h_t1 v4).bind fun v5 =>
    (ho_gr 4 a0 2 z).bind fun r6 =>
    (ho_li 1 r6 x1 z).bind fun v7 =>
    some ((((12 * v3) + v5) + v7), z)
  ) else (
    some ((-100), z)
  )
set_option maxHeartbeats 4000000 in
set_option maxRecDepth 100000 in
theorem c_X4_heightOf (l : Launch) (G : hp_G) (fu : Nat) (a0 : Nat) (x1 : Int32) (z : hp_S) (rq : Int32) (zq : hp_S) (h : f_X4_heightOf fu a0 x1 z = some (rq, zq)) : hp_M l G yX4_heightOf cX4_heightOf 3 (some .int) 0 0 0 0 [.ref a0, .int x1] z (hp_Qi G rq zq) := by
  refine hp_M.of (by decide) (Nat.le_of_ble_eq_true rfl) ?_
  intro p e s m below meth c X hr hlocks hnm hP hS ls hl
  have X : hp_C G cX4_heightOf RX4 3 p s m c := X
  have hl : lv_has ls 3 [(0, .ref a0), (1, .int x1)] := hl
  have hx := X.1
  have hb := X.2.1
  unfold f_X4_heightOf at h
  refine lv_aload_n hx hb dX4_heightOf_0 rfl (lv_at hl 0 rfl) ?_
  obtain ⟨r1, q, h⟩ := ho_bd h
  refine hw_gr X hP LX4 fX4_15 rfl q dX4_heightOf_1 ?_
  refine lv_iload_n hx hb dX4_heightOf_4 rfl (lv_at hl 1 rfl) ?_
  obtain ⟨v2, q, h⟩ := ho_bd h
  refine hw_li X hP q dX4_heightOf_5 ?_
  refine lv_istore_n (lv' := [(2, .int v2), (0, .ref a0), (1, .int x1)]) hx hb dX4_heightOf_6 rfl hl (by decide) rfl (fun ls hl => ?_)
  refine lv_iload_n hx hb dX4_heightOf_7 rfl (lv_at hl 0 rfl) ?_
  refine lv_if_ge (tgt := 14) hx hb dX4_heightOf_8 (by decide) (fun hc => ?_) (fun hc => ?_)
  · replace h := ho_ip hc h
    refine lv_bipush (v := 12) hx hb dX4_heightOf_14 (by decide) ?_
    refine lv_iload_n hx hb dX4_heightOf_16 rfl (lv_at hl 0 rfl) ?_
    refine lv_bipush (v := 7) hx hb dX4_heightOf_17 (by decide) ?_
    obtain ⟨v3, q, h⟩ := ho_bd h
    refine hw_dv X q dX4_heightOf_19 ?_
    refine lv_imul hx hb dX4_heightOf_20 ?_
    refine hw_gsN (q := h_q1) X hS h_s1 m2_98 dX4_heightOf_21 ?_
    refine lv_iload_n hx hb dX4_heightOf_24 rfl (lv_at hl 0 rfl) ?_
    refine lv_bipush (v := 7) hx hb dX4_heightOf_25 (by decide) ?_
    obtain ⟨v4, q, h⟩ := ho_bd h
    refine hw_rm X q dX4_heightOf_27 ?_
    obtain ⟨v5, q, h⟩ := ho_bd h
    refine hw_tl (q := h_q1) X hS h_s1 q dX4_heightOf_28 ?_
    refine lv_iadd hx hb dX4_heightOf_29 ?_
    refine lv_aload_n hx hb dX4_heightOf_30 rfl (lv_at hl 1 rfl) ?_
    obtain ⟨r6, q, h⟩ := ho_bd h
    refine hw_gr X hP LX4 fX4_18 rfl q dX4_heightOf_31 ?_
    refine lv_iload_n hx hb dX4_heightOf_34 rfl (lv_at hl 2 rfl) ?_
    obtain ⟨v7, q, h⟩ := ho_bd h
    refine hw_li X hP q dX4_heightOf_35 ?_
    refine lv_iadd hx hb dX4_heightOf_36 ?_
    exact hw_iret X hP hS hr hlocks h dX4_heightOf_37
  · replace h := ho_in hc h
    refine lv_bipush (v := (-100)) hx hb dX4_heightOf_11 (by decide) ?_
    exact hw_iret X hP hS hr hlocks h dX4_heightOf_13
def f_X4_isOutside_B21 (fu : Nat) (a0 : Nat) (x1 : Int32) (s0 : Int32) (z : hp_S) : Option (Int32 × hp_S) :=
  if vp_nar .boolean s0 = s0 then some (s0, z) else none
def f_X4_isOutside_B16 (fu : Nat) (a0 : Nat) (x1 : Int32) (z : hp_S) : Option (Int32 × hp_S) :=
  f_X4_isOutside_B21 fu a0 x1 1 z
def f_X4_isOutside (fu : Nat) (a0 : Nat) (x1 : Int32) (z : hp_S) : Option (Int32 × hp_S) :=
  (ho_gi 4 a0 4 z).bind fun v1 =>
  if x1 < v1 then (
    f_X4_isOutside_B16 fu a0 x1  z
  ) else (
    (ho_gi 4 a0 5 z).bind fun v2 =>
    if x1 ≤ v2 then (
      f_X4_isOutside_B21 fu a0 x1 0 z
    ) else (
      f_X4_isOutside_B16 fu a0 x1  z
    )
  )
set_option maxHeartbeats 4000000 in
set_option maxRecDepth 100000 in
theorem c_X4_isOutside (l : Launch) (G : hp_G) (fu : Nat) (a0 : Nat) (x1 : Int32) (z : hp_S) (rq : Int32) (zq : hp_S) (h : f_X4_isOutside fu a0 x1 z = some (rq, zq)) : hp_M l G yX4_isOutside cX4_isOutside 2 (some .boolean) 0 0 0 0 [.ref a0, .int x1] z (hp_Qi G rq zq) := by
  refine hp_M.of (by decide) (Nat.le_of_ble_eq_true rfl) ?_
  intro p e s m below meth c X hr hlocks hnm hP hS ls hl
  have X : hp_C G cX4_isOutside RX4 2 p s m c := X
  have hl : lv_has ls 2 [(0, .ref a0), (1, .int x1)] := hl
  have hx := X.1
  have hb := X.2.1
  have B21 : ∀ (s0 : Int32) (z : hp_S) (H : Heap) (locs : List Loc) (ls : Array Slot), f_X4_isOutside_B21 fu a0 x1 s0 z = some (rq, zq) → hp_P G z H → va_S (hp_A G) s.heap H locs → lv_has ls 2 [(0, .ref a0), (1, .int x1)] → W p l e (hp_rm 0 0 0 0) s m [.ref a0, .int x1].toArray below meth c H locs 0 0 (MQ below (hp_Qi G rq zq) [.ref a0, .int x1].toArray s 0 0 (hp_A G)) (F0 m 21 ls [.int s0]) := by
    intro s0 z H locs ls h hP hS hl
    unfold f_X4_isOutside_B21 at h
    exact hw_zret X hP hS hr hlocks h dX4_isOutside_21
  have B16 : ∀ (z : hp_S) (H : Heap) (locs : List Loc) (ls : Array Slot), f_X4_isOutside_B16 fu a0 x1 z = some (rq, zq) → hp_P G z H → va_S (hp_A G) s.heap H locs → lv_has ls 2 [(0, .ref a0), (1, .int x1)] → W p l e (hp_rm 0 0 0 0) s m [.ref a0, .int x1].toArray below meth c H locs 0 0 (MQ below (hp_Qi G rq zq) [.ref a0, .int x1].toArray s 0 0 (hp_A G)) (F0 m 16 ls []) := by
    intro z H locs ls h hP hS hl
    unfold f_X4_isOutside_B16 at h
    refine lv_iconst (v := 1) hx hb dX4_isOutside_16 (by decide) ?_
    refine lv_goto (tgt := 21) hx hb dX4_isOutside_17 (by decide) ?_
    exact B21 1 z _ _ _ h hP hS (lv_sub hl [0, 1] rfl)
  unfold f_X4_isOutside at h
  refine lv_iload_n hx hb dX4_isOutside_0 rfl (lv_at hl 1 rfl) ?_
  refine lv_aload_n hx hb dX4_isOutside_1 rfl (lv_at hl 0 rfl) ?_
  obtain ⟨v1, q, h⟩ := ho_bd h
  refine hw_gi X hP LX4 fX4_21 rfl q dX4_isOutside_2 ?_
  refine lv_icmp_lt (tgt := 16) hx hb dX4_isOutside_5 (by decide) (fun hc => ?_) (fun hc => ?_)
  · replace h := ho_ip hc h
    exact B16 z _ _ _ h hP hS (lv_sub hl [0, 1] rfl)
  · replace h := ho_in hc h
    refine lv_iload_n hx hb dX4_isOutside_8 rfl (lv_at hl 1 rfl) ?_
    refine lv_aload_n hx hb dX4_isOutside_9 rfl (lv_at hl 0 rfl) ?_
    obtain ⟨v2, q, h⟩ := ho_bd h
    refine hw_gi X hP LX4 fX4_25 rfl q dX4_isOutside_10 ?_
    refine lv_icmp_le (tgt := 20) hx hb dX4_isOutside_13 (by decide) (fun hc => ?_) (fun hc => ?_)
    · replace h := ho_ip hc h
      refine lv_iconst (v := 0) hx hb dX4_isOutside_20 (by decide) ?_
      exact B21 0 z _ _ _ h hP hS (lv_sub hl [0, 1] rfl)
    · replace h := ho_in hc h
      exact B16 z _ _ _ h hP hS (lv_sub hl [0, 1] rfl)
def f_X4_notesOutside_B41 (fu : Nat) (a0 : Nat) (w1 : Int32) (z : hp_S) : Option (Int32 × hp_S) :=
  some (w1, z)
def f_X4_notesOutside_B35 (fu : Nat) (a0 : Nat) (ag : Int32 → Int32 → hp_S → Option (Int32 × hp_S)) (kk : Int32 → hp_S → Option (Int32 × hp_S)) (w1 : Int32) (w2 : Int32) (z : hp_S) : Option (Int32 × hp_S) :=
  (ho_id (w2 + 1)).bind fun v3 =>
  ag w1 v3 z
def f_X4_notesOutside_L4 (fu : Nat) (a0 : Nat) (kk : Int32 → hp_S → Option (Int32 × hp_S)) : Nat → Int32 → Int32 → hp_S → Option (Int32 × hp_S)
  | 0, _, _, _ => none
  | n + 1, w1, w2, z =>
    (ho_gi 4 a0 3 z).bind fun v1 =>
    if v1 ≤ w2 then (
      kk w1 z
    ) else (
      (ho_is 4 a0 z).bind fun _ =>
      (f_X4_isNote fu a0 w2 z).bind fun ⟨v2, z⟩ =>
      if v2 = 0 then (
        f_X4_notesOutside_B35 fu a0 (f_X4_notesOutside_L4 fu a0 kk n) kk w1 w2 z
      ) else (
        (ho_is 4 a0 z).bind fun _ =>
        (f_X4_heightOf fu a0 w2 z).bind fun ⟨v4, z⟩ =>
        (ho_is 4 a0 z).bind fun _ =>
        (f_X4_isOutside fu a0 v4 z).bind fun ⟨v5, z⟩ =>
        if v5 = 0 then (
          f_X4_notesOutside_B35 fu a0 (f_X4_notesOutside_L4 fu a0 kk n) kk w1 w2 z
        ) else (
          (ho_id (w1 + 1)).bind fun v6 =>
          f_X4_notesOutside_B35 fu a0 (f_X4_notesOutside_L4 fu a0 kk n) kk v6 w2 z
        )
      )
    )
def f_X4_notesOutside (fu : Nat) (a0 : Nat) (z : hp_S) : Option (Int32 × hp_S) :=
  f_X4_notesOutside_L4 fu a0 (f_X4_notesOutside_B41 fu a0) fu 0 0 z
set_option maxHeartbeats 4000000 in
set_option maxRecDepth 100000 in
theorem c_X4_notesOutside (l : Launch) (G : hp_G) (fu : Nat) (a0 : Nat) (z : hp_S) (rq : Int32) (zq : hp_S) (h : f_X4_notesOutside fu a0 z = some (rq, zq)) : hp_M l G yX4_notesOutside cX4_notesOutside 3 (some .int) 1 22 0 0 [.ref a0] z (hp_Qi G rq zq) := by
  refine hp_M.of (by decide) (Nat.le_of_ble_eq_true rfl) ?_
  intro p e s m below meth c X hr hlocks hnm hP hS ls hl
  have X : hp_C G cX4_notesOutside RX4 3 p s m c := X
  have hl : lv_has ls 3 [(0, .ref a0)] := hl
  have hx := X.1
  have hb := X.2.1
  have B41 : ∀ (w1 : Int32) (z : hp_S) (H : Heap) (locs : List Loc) (ls : Array Slot), f_X4_notesOutside_B41 fu a0 w1 z = some (rq, zq) → hp_P G z H → va_S (hp_A G) s.heap H locs → lv_has ls 3 [(0, .ref a0), (1, .int w1)] → W p l e (hp_rm 1 22 0 0) s m [.ref a0].toArray below meth c H locs 0 0 (MQ below (hp_Qi G rq zq) [.ref a0].toArray s 0 0 (hp_A G)) (F0 m 41 ls []) := by
    intro w1 z H locs ls h hP hS hl
    unfold f_X4_notesOutside_B41 at h
    refine lv_iload_n hx hb dX4_notesOutside_41 rfl (lv_at hl 1 rfl) ?_
    exact hw_iret X hP hS hr hlocks h dX4_notesOutside_42
  have L4 : ∀ (n4 : Nat) (w1 : Int32) (w2 : Int32) (z : hp_S) (H : Heap) (locs : List Loc) (ls : Array Slot), f_X4_notesOutside_L4 fu a0 (f_X4_notesOutside_B41 fu a0) n4 w1 w2 z = some (rq, zq) → hp_P G z H → va_S (hp_A G) s.heap H locs → lv_has ls 3 [(0, .ref a0), (1, .int w1), (2, .int w2)] → W p l e (hp_rm 1 22 0 0) s m [.ref a0].toArray below meth c H locs 0 0 (MQ below (hp_Qi G rq zq) [.ref a0].toArray s 0 0 (hp_A G)) (F0 m 4 ls []) := by
    intro n4
    induction n4 with
    | zero =>
      intro w1 w2 z H locs ls h
      exact nomatch (h : (none : Option (Int32 × hp_S)) = some (rq, zq))
    | succ n4 ih4 =>
      have B35 : ∀ (w1 : Int32) (w2 : Int32) (z : hp_S) (H : Heap) (locs : List Loc) (ls : Array Slot), f_X4_notesOutside_B35 fu a0 (f_X4_notesOutside_L4 fu a0 (f_X4_notesOutside_B41 fu a0) n4) (f_X4_notesOutside_B41 fu a0) w1 w2 z = some (rq, zq) → hp_P G z H → va_S (hp_A G) s.heap H locs → lv_has ls 3 [(0, .ref a0), (1, .int w1), (2, .int w2)] → W p l e (hp_rm 1 22 0 0) s m [.ref a0].toArray below meth c H locs 0 0 (MQ below (hp_Qi G rq zq) [.ref a0].toArray s 0 0 (hp_A G)) (F0 m 35 ls []) := by
        intro w1 w2 z H locs ls h hP hS hl
        unfold f_X4_notesOutside_B35 at h
        obtain ⟨v3, q, h⟩ := ho_bd h
        refine lv_iinc (v := v3) (lv' := [(2, .int v3), (0, .ref a0), (1, .int w1)]) hx hb dX4_notesOutside_35 hl (k := 2) rfl (Option.some.inj q) (by decide) rfl (fun ls hl => ?_)
        refine lv_goto (tgt := 4) hx hb dX4_notesOutside_38 (by decide) ?_
        exact ih4 w1 v3 z _ _ _ h hP hS (lv_sub hl [1, 2, 0] rfl)
      intro w1 w2 z H locs ls h hP hS hl
      rw [f_X4_notesOutside_L4] at h
      refine lv_iload_n hx hb dX4_notesOutside_4 rfl (lv_at hl 2 rfl) ?_
      refine lv_aload_n hx hb dX4_notesOutside_5 rfl (lv_at hl 0 rfl) ?_
      obtain ⟨v1, q, h⟩ := ho_bd h
      refine hw_gi X hP LX4 fX4_28 rfl q dX4_notesOutside_6 ?_
      refine lv_icmp_ge (tgt := 41) hx hb dX4_notesOutside_9 (by decide) (fun hc => ?_) (fun hc => ?_)
      · replace h := ho_ip hc h
        exact B41 w1 z _ _ _ h hP hS (lv_sub hl [0, 1] rfl)
      · replace h := ho_in hc h
        refine lv_aload_n hx hb dX4_notesOutside_12 rfl (lv_at hl 0 rfl) ?_
        refine lv_iload_n hx hb dX4_notesOutside_13 rfl (lv_at hl 2 rfl) ?_
        obtain ⟨_, hs, h⟩ := ho_bd h
        obtain ⟨⟨v2, z⟩, q, h⟩ := ho_bd h
        refine hw_ci hS (hp_runV (As := [.int w2]) (rest := []) X hP hS hl.1 LX4 (ho_is_s hs) kX4_38 ⟨m2_91, m2_92⟩ (c_X4_isNote l G fu a0 w2 _ _ _ q) rfl (Nat.le_of_ble_eq_true rfl) ⟨⟨Nat.le_of_ble_eq_true rfl, Nat.le_of_ble_eq_true rfl⟩, Nat.le_of_ble_eq_true rfl, Nat.le_of_ble_eq_true rfl⟩ dX4_notesOutside_14) (fun H locs hP hS => ?_)
        refine lv_if_eq (tgt := 35) hx hb dX4_notesOutside_17 (by decide) (fun hc => ?_) (fun hc => ?_)
        · replace h := ho_ip hc h
          exact B35 w1 w2 z _ _ _ h hP hS (lv_sub hl [0, 1, 2] rfl)
        · replace h := ho_in hc h
          refine lv_aload_n hx hb dX4_notesOutside_20 rfl (lv_at hl 0 rfl) ?_
          refine lv_aload_n hx hb dX4_notesOutside_21 rfl (lv_at hl 0 rfl) ?_
          refine lv_iload_n hx hb dX4_notesOutside_22 rfl (lv_at hl 2 rfl) ?_
          obtain ⟨_, hs, h⟩ := ho_bd h
          obtain ⟨⟨v4, z⟩, q, h⟩ := ho_bd h
          refine hw_ci hS (hp_runV (As := [.int w2]) (rest := [.ref a0]) X hP hS hl.1 LX4 (ho_is_s hs) kX4_42 ⟨m2_95, m2_96⟩ (c_X4_heightOf l G fu a0 w2 _ _ _ q) rfl (Nat.le_of_ble_eq_true rfl) ⟨⟨Nat.le_of_ble_eq_true rfl, Nat.le_of_ble_eq_true rfl⟩, Nat.le_of_ble_eq_true rfl, Nat.le_of_ble_eq_true rfl⟩ dX4_notesOutside_23) (fun H locs hP hS => ?_)
          obtain ⟨_, hs, h⟩ := ho_bd h
          obtain ⟨⟨v5, z⟩, q, h⟩ := ho_bd h
          refine hw_ci hS (hp_runV (As := [.int v4]) (rest := []) X hP hS hl.1 LX4 (ho_is_s hs) kX4_46 ⟨m2_101, m2_102⟩ (c_X4_isOutside l G fu a0 v4 _ _ _ q) rfl (Nat.le_of_ble_eq_true rfl) ⟨⟨Nat.le_of_ble_eq_true rfl, Nat.le_of_ble_eq_true rfl⟩, Nat.le_of_ble_eq_true rfl, Nat.le_of_ble_eq_true rfl⟩ dX4_notesOutside_26) (fun H locs hP hS => ?_)
          refine lv_if_eq (tgt := 35) hx hb dX4_notesOutside_29 (by decide) (fun hc => ?_) (fun hc => ?_)
          · replace h := ho_ip hc h
            exact B35 w1 w2 z _ _ _ h hP hS (lv_sub hl [0, 1, 2] rfl)
          · replace h := ho_in hc h
            obtain ⟨v6, q, h⟩ := ho_bd h
            refine lv_iinc (v := v6) (lv' := [(1, .int v6), (0, .ref a0), (2, .int w2)]) hx hb dX4_notesOutside_32 hl (k := 1) rfl (Option.some.inj q) (by decide) rfl (fun ls hl => ?_)
            exact B35 v6 w2 z _ _ _ h hP hS (lv_sub hl [1, 0, 2] rfl)
  unfold f_X4_notesOutside at h
  refine lv_iconst (v := 0) hx hb dX4_notesOutside_0 (by decide) ?_
  refine lv_istore_n (lv' := [(1, .int 0), (0, .ref a0)]) hx hb dX4_notesOutside_1 rfl hl (by decide) rfl (fun ls hl => ?_)
  refine lv_iconst (v := 0) hx hb dX4_notesOutside_2 (by decide) ?_
  refine lv_istore_n (lv' := [(2, .int 0), (1, .int 0), (0, .ref a0)]) hx hb dX4_notesOutside_3 rfl hl (by decide) rfl (fun ls hl => ?_)
  exact L4 fu 0 0 z _ _ _ h hP hS (lv_sub hl [2, 1, 0] rfl)
def f_X6_range_B35 (fu : Nat) (a0 : Nat) (x1 : Int32) (x2 : Int32) (x3 : Int32) (z : hp_S) : Option (Int32 × hp_S) :=
  some ((-2), z)
def f_X6_range (fu : Nat) (a0 : Nat) (x1 : Int32) (x2 : Int32) (x3 : Int32) (z : hp_S) : Option (Int32 × hp_S) :=
  (ho_is 6 a0 z).bind fun _ =>
  (f_X6_isVoice fu a0 x1 z).bind fun ⟨v1, z⟩ =>
  if v1 = 0 then (
    f_X6_range_B35 fu a0 x1 x2 x3  z
  ) else (
    (f_X6_within fu x2 (-2) 99 z).bind fun ⟨v2, z⟩ =>
    if v2 = 0 then (
      f_X6_range_B35 fu a0 x1 x2 x3  z
    ) else (
      (f_X6_within fu x3 (-2) 99 z).bind fun ⟨v3, z⟩ =>
      if v3 = 0 then (
        f_X6_range_B35 fu a0 x1 x2 x3  z
      ) else (
        if x2 ≤ x3 then (
          (ho_gr 6 a0 0 z).bind fun r4 =>
          (ho_lr 4 r4 x1 z).bind fun r5 =>
          (ho_pi 4 r5 4 x2 z).bind fun z =>
          (ho_pi 4 r5 5 x3 z).bind fun z =>
          (ho_is 4 r5 z).bind fun _ =>
          (f_X4_notesOutside fu r5 z).bind fun ⟨v6, z⟩ =>
          some (v6, z)
        ) else (
          f_X6_range_B35 fu a0 x1 x2 x3  z
        )
      )
    )
  )
set_option maxHeartbeats 4000000 in
set_option maxRecDepth 100000 in
theorem c_X6_range (l : Launch) (G : hp_G) (fu : Nat) (a0 : Nat) (x1 : Int32) (x2 : Int32) (x3 : Int32) (z : hp_S) (rq : Int32) (zq : hp_S) (h : f_X6_range fu a0 x1 x2 x3 z = some (rq, zq)) : hp_M l G yX6_range cX6_range 5 (some .int) 2 44 0 0 [.ref a0, .int x1, .int x2, .int x3] z (hp_Qi G rq zq) := by
  refine hp_M.of (by decide) (Nat.le_of_ble_eq_true rfl) ?_
  intro p e s m below meth c X hr hlocks hnm hP hS ls hl
  have X : hp_C G cX6_range RX6 5 p s m c := X
  have hl : lv_has ls 5 [(0, .ref a0), (1, .int x1), (2, .int x2), (3, .int x3)] := hl
  have hx := X.1
  have hb := X.2.1
  have B35 : ∀ (z : hp_S) (H : Heap) (locs : List Loc) (ls : Array Slot), f_X6_range_B35 fu a0 x1 x2 x3 z = some (rq, zq) → hp_P G z H → va_S (hp_A G) s.heap H locs → lv_has ls 5 [(0, .ref a0), (1, .int x1), (2, .int x2), (3, .int x3)] → W p l e (hp_rm 2 44 0 0) s m [.ref a0, .int x1, .int x2, .int x3].toArray below meth c H locs 0 0 (MQ below (hp_Qi G rq zq) [.ref a0, .int x1, .int x2, .int x3].toArray s 0 0 (hp_A G)) (F0 m 35 ls []) := by
    intro z H locs ls h hP hS hl
    unfold f_X6_range_B35 at h
    refine lv_bipush (v := (-2)) hx hb dX6_range_35 (by decide) ?_
    exact hw_iret X hP hS hr hlocks h dX6_range_37
  unfold f_X6_range at h
  refine lv_aload_n hx hb dX6_range_0 rfl (lv_at hl 0 rfl) ?_
  refine lv_iload_n hx hb dX6_range_1 rfl (lv_at hl 1 rfl) ?_
  obtain ⟨_, hs, h⟩ := ho_bd h
  obtain ⟨⟨v1, z⟩, q, h⟩ := ho_bd h
  refine hw_ci hS (hp_runV (As := [.int x1]) (rest := []) X hP hS hl.1 LX6 (ho_is_s hs) kX6_90 ⟨m2_32, mp_4⟩ (c_X6_isVoice l G fu a0 x1 _ _ _ q) rfl (Nat.le_of_ble_eq_true rfl) ⟨⟨Nat.le_of_ble_eq_true rfl, Nat.le_of_ble_eq_true rfl⟩, Nat.le_of_ble_eq_true rfl, Nat.le_of_ble_eq_true rfl⟩ dX6_range_2) (fun H locs hP hS => ?_)
  refine lv_if_eq (tgt := 35) hx hb dX6_range_5 (by decide) (fun hc => ?_) (fun hc => ?_)
  · replace h := ho_ip hc h
    exact B35 z _ _ _ h hP hS (lv_sub hl [0, 1, 2, 3] rfl)
  · replace h := ho_in hc h
    refine lv_iload_n hx hb dX6_range_8 rfl (lv_at hl 2 rfl) ?_
    refine lv_bipush (v := (-2)) hx hb dX6_range_9 (by decide) ?_
    refine lv_bipush (v := 99) hx hb dX6_range_11 (by decide) ?_
    obtain ⟨⟨v2, z⟩, q, h⟩ := ho_bd h
    refine hw_ci hS (hp_runS (As := [.int x2, .int (-2), .int 99]) (rest := []) X hP hS hl.1 kX6_97 m2_35 (c_X6_within l G fu x2 (-2) 99 _ _ _ q) rfl (Nat.le_of_ble_eq_true rfl) ⟨⟨Nat.le_of_ble_eq_true rfl, Nat.le_of_ble_eq_true rfl⟩, Nat.le_of_ble_eq_true rfl, Nat.le_of_ble_eq_true rfl⟩ dX6_range_13) (fun H locs hP hS => ?_)
    refine lv_if_eq (tgt := 35) hx hb dX6_range_16 (by decide) (fun hc => ?_) (fun hc => ?_)
    · replace h := ho_ip hc h
      exact B35 z _ _ _ h hP hS (lv_sub hl [0, 1, 2, 3] rfl)
    · replace h := ho_in hc h
      refine lv_iload_n hx hb dX6_range_19 rfl (lv_at hl 3 rfl) ?_
      refine lv_bipush (v := (-2)) hx hb dX6_range_20 (by decide) ?_
      refine lv_bipush (v := 99) hx hb dX6_range_22 (by decide) ?_
      obtain ⟨⟨v3, z⟩, q, h⟩ := ho_bd h
      refine hw_ci hS (hp_runS (As := [.int x3, .int (-2), .int 99]) (rest := []) X hP hS hl.1 kX6_97 m2_35 (c_X6_within l G fu x3 (-2) 99 _ _ _ q) rfl (Nat.le_of_ble_eq_true rfl) ⟨⟨Nat.le_of_ble_eq_true rfl, Nat.le_of_ble_eq_true rfl⟩, Nat.le_of_ble_eq_true rfl, Nat.le_of_ble_eq_true rfl⟩ dX6_range_24) (fun H locs hP hS => ?_)
      refine lv_if_eq (tgt := 35) hx hb dX6_range_27 (by decide) (fun hc => ?_) (fun hc => ?_)
      · replace h := ho_ip hc h
        exact B35 z _ _ _ h hP hS (lv_sub hl [0, 1, 2, 3] rfl)
      · replace h := ho_in hc h
        refine lv_iload_n hx hb dX6_range_30 rfl (lv_at hl 2 rfl) ?_
        refine lv_iload_n hx hb dX6_range_31 rfl (lv_at hl 3 rfl) ?_
        refine lv_icmp_le (tgt := 38) hx hb dX6_range_32 (by decide) (fun hc => ?_) (fun hc => ?_)
        · replace h := ho_ip hc h
          refine lv_aload_n hx hb dX6_range_38 rfl (lv_at hl 0 rfl) ?_
          obtain ⟨r4, q, h⟩ := ho_bd h
          refine hw_gr X hP LX6 fX6_20 rfl q dX6_range_39 ?_
          refine lv_iload_n hx hb dX6_range_42 rfl (lv_at hl 1 rfl) ?_
          obtain ⟨r5, q, h⟩ := ho_bd h
          refine hw_lr (t0 := 2) X hP rfl q dX6_range_43 ?_
          refine lv_astore (lv' := [(4, .ref r5), (0, .ref a0), (1, .int x1), (2, .int x2), (3, .int x3)]) hx hb dX6_range_44 hl (by decide) rfl (fun ls hl => ?_)
          refine lv_aload hx hb dX6_range_46 (lv_at hl 0 rfl) ?_
          refine lv_iload_n hx hb dX6_range_48 rfl (lv_at hl 3 rfl) ?_
          obtain ⟨z, q, h⟩ := ho_bd h
          refine hw_pi X hP hS LX4 fX6_118 rfl rfl rfl q dX6_range_49 (fun H locs hP hS => ?_)
          refine lv_aload hx hb dX6_range_52 (lv_at hl 0 rfl) ?_
          refine lv_iload_n hx hb dX6_range_54 rfl (lv_at hl 4 rfl) ?_
          obtain ⟨z, q, h⟩ := ho_bd h
          refine hw_pi X hP hS LX4 fX6_121 rfl rfl rfl q dX6_range_55 (fun H locs hP hS => ?_)
          refine lv_aload hx hb dX6_range_58 (lv_at hl 0 rfl) ?_
          obtain ⟨_, hs, h⟩ := ho_bd h
          obtain ⟨⟨v6, z⟩, q, h⟩ := ho_bd h
          refine hw_ci hS (hp_runV (As := []) (rest := []) X hP hS hl.1 LX4 (ho_is_s hs) kX6_124 ⟨m2_87, m2_88⟩ (c_X4_notesOutside l G fu r5 _ _ _ q) rfl (Nat.le_of_ble_eq_true rfl) ⟨⟨Nat.le_of_ble_eq_true rfl, Nat.le_of_ble_eq_true rfl⟩, Nat.le_of_ble_eq_true rfl, Nat.le_of_ble_eq_true rfl⟩ dX6_range_60) (fun H locs hP hS => ?_)
          exact hw_iret X hP hS hr hlocks h dX6_range_63
        · replace h := ho_in hc h
          exact B35 z _ _ _ h hP hS (lv_sub hl [0, 1, 2, 3] rfl)
def f_X6_grid_B19 (fu : Nat) (a0 : Nat) (x1 : Int32) (z : hp_S) : Option (Int32 × hp_S) :=
  (ho_pi 6 a0 8 x1 z).bind fun z =>
  (ho_gr 6 a0 1 z).bind fun r1 =>
  (ho_gr 6 a0 0 z).bind fun r2 =>
  (ho_is 5 r1 z).bind fun _ =>
  (f_X5_gather fu r1 r2 x1 z).bind fun z =>
  (ho_gr 6 a0 1 z).bind fun r3 =>
  (ho_gi 5 r3 1 z).bind fun v4 =>
  some (v4, z)
def f_X6_grid (fu : Nat) (a0 : Nat) (x1 : Int32) (z : hp_S) : Option (Int32 × hp_S) :=
  if x1 = 0 then (
    f_X6_grid_B19 fu a0 x1  z
  ) else (
    (f_X6_within fu x1 10 500 z).bind fun ⟨v5, z⟩ =>
    if v5 = 0 then (
      some ((-2), z)
    ) else (
      f_X6_grid_B19 fu a0 x1  z
    )
  )
set_option maxHeartbeats 4000000 in
set_option maxRecDepth 100000 in
theorem c_X6_grid (l : Launch) (G : hp_G) (fu : Nat) (a0 : Nat) (x1 : Int32) (z : hp_S) (rq : Int32) (zq : hp_S) (h : f_X6_grid fu a0 x1 z = some (rq, zq)) : hp_M l G yX6_grid cX6_grid 2 (some .int) 4 88 0 0 [.ref a0, .int x1] z (hp_Qi G rq zq) := by
  refine hp_M.of (by decide) (Nat.le_of_ble_eq_true rfl) ?_
  intro p e s m below meth c X hr hlocks hnm hP hS ls hl
  have X : hp_C G cX6_grid RX6 2 p s m c := X
  have hl : lv_has ls 2 [(0, .ref a0), (1, .int x1)] := hl
  have hx := X.1
  have hb := X.2.1
  have B19 : ∀ (z : hp_S) (H : Heap) (locs : List Loc) (ls : Array Slot), f_X6_grid_B19 fu a0 x1 z = some (rq, zq) → hp_P G z H → va_S (hp_A G) s.heap H locs → lv_has ls 2 [(0, .ref a0), (1, .int x1)] → W p l e (hp_rm 4 88 0 0) s m [.ref a0, .int x1].toArray below meth c H locs 0 0 (MQ below (hp_Qi G rq zq) [.ref a0, .int x1].toArray s 0 0 (hp_A G)) (F0 m 19 ls []) := by
    intro z H locs ls h hP hS hl
    unfold f_X6_grid_B19 at h
    refine lv_aload_n hx hb dX6_grid_19 rfl (lv_at hl 0 rfl) ?_
    refine lv_iload_n hx hb dX6_grid_20 rfl (lv_at hl 1 rfl) ?_
    obtain ⟨z, q, h⟩ := ho_bd h
    refine hw_pi X hP hS LX6 fX6_83 rfl rfl rfl q dX6_grid_21 (fun H locs hP hS => ?_)
    refine lv_aload_n hx hb dX6_grid_24 rfl (lv_at hl 0 rfl) ?_
    obtain ⟨r1, q, h⟩ := ho_bd h
    refine hw_gr X hP LX6 fX6_28 rfl q dX6_grid_25 ?_
    refine lv_aload_n hx hb dX6_grid_28 rfl (lv_at hl 0 rfl) ?_
    obtain ⟨r2, q, h⟩ := ho_bd h
    refine hw_gr X hP LX6 fX6_20 rfl q dX6_grid_29 ?_
    refine lv_iload_n hx hb dX6_grid_32 rfl (lv_at hl 1 rfl) ?_
    obtain ⟨_, hs, h⟩ := ho_bd h
    obtain ⟨z, q, h⟩ := ho_bd h
    refine hw_cv hS (hp_runV (As := [.ref r2, .int x1]) (rest := []) X hP hS hl.1 LX5 (ho_is_s hs) kX6_86 ⟨m2_0, m2_1⟩ (c_X5_gather l G fu r1 r2 x1 _ _ q) rfl (Nat.le_of_ble_eq_true rfl) ⟨⟨Nat.le_of_ble_eq_true rfl, Nat.le_of_ble_eq_true rfl⟩, Nat.le_of_ble_eq_true rfl, Nat.le_of_ble_eq_true rfl⟩ dX6_grid_33) (fun H locs hP hS => ?_)
    refine lv_aload_n hx hb dX6_grid_36 rfl (lv_at hl 0 rfl) ?_
    obtain ⟨r3, q, h⟩ := ho_bd h
    refine hw_gr X hP LX6 fX6_28 rfl q dX6_grid_37 ?_
    obtain ⟨v4, q, h⟩ := ho_bd h
    refine hw_gi X hP LX5 fX6_127 rfl q dX6_grid_40 ?_
    exact hw_iret X hP hS hr hlocks h dX6_grid_43
  unfold f_X6_grid at h
  refine lv_iload_n hx hb dX6_grid_0 rfl (lv_at hl 1 rfl) ?_
  refine lv_if_eq (tgt := 19) hx hb dX6_grid_1 (by decide) (fun hc => ?_) (fun hc => ?_)
  · replace h := ho_ip hc h
    exact B19 z _ _ _ h hP hS (lv_sub hl [0, 1] rfl)
  · replace h := ho_in hc h
    refine lv_iload_n hx hb dX6_grid_4 rfl (lv_at hl 1 rfl) ?_
    refine lv_bipush (v := 10) hx hb dX6_grid_5 (by decide) ?_
    refine lv_sipush (v := 500) hx hb dX6_grid_7 (by decide) ?_
    obtain ⟨⟨v5, z⟩, q, h⟩ := ho_bd h
    refine hw_ci hS (hp_runS (As := [.int x1, .int 10, .int 500]) (rest := []) X hP hS hl.1 kX6_97 m2_35 (c_X6_within l G fu x1 10 500 _ _ _ q) rfl (Nat.le_of_ble_eq_true rfl) ⟨⟨Nat.le_of_ble_eq_true rfl, Nat.le_of_ble_eq_true rfl⟩, Nat.le_of_ble_eq_true rfl, Nat.le_of_ble_eq_true rfl⟩ dX6_grid_10) (fun H locs hP hS => ?_)
    refine lv_if_ne (tgt := 19) hx hb dX6_grid_13 (by decide) (fun hc => ?_) (fun hc => ?_)
    · replace h := ho_in hc h
      exact B19 z _ _ _ h hP hS (lv_sub hl [0, 1] rfl)
    · replace h := ho_ip hc h
      refine lv_bipush (v := (-2)) hx hb dX6_grid_16 (by decide) ?_
      exact hw_iret X hP hS hr hlocks h dX6_grid_18
def f_X1_append (fu : Nat) (a0 : Nat) (x1 : Int32) (x2 : Int32) (z : hp_S) : Option (Int32 × hp_S) :=
  (ho_gi 1 a0 2 z).bind fun v1 =>
  (ho_gr 1 a0 0 z).bind fun r2 =>
  (ho_ln 1 r2 z).bind fun v3 =>
  if v1 < v3 then (
    (ho_gr 1 a0 0 z).bind fun r4 =>
    (ho_gi 1 a0 2 z).bind fun v5 =>
    (ho_si r4 v5 x1 z).bind fun z =>
    (ho_gr 1 a0 1 z).bind fun r6 =>
    (ho_gi 1 a0 2 z).bind fun v7 =>
    (ho_si r6 v7 x2 z).bind fun z =>
    (ho_gi 1 a0 2 z).bind fun v8 =>
    (ho_pi 1 a0 2 (v8 + 1) z).bind fun z =>
    (ho_gi 1 a0 2 z).bind fun v9 =>
    some (v9, z)
  ) else (
    some ((-3), z)
  )
set_option maxHeartbeats 4000000 in
set_option maxRecDepth 100000 in
theorem c_X1_append (l : Launch) (G : hp_G) (fu : Nat) (a0 : Nat) (x1 : Int32) (x2 : Int32) (z : hp_S) (rq : Int32) (zq : hp_S) (h : f_X1_append fu a0 x1 x2 z = some (rq, zq)) : hp_M l G yX1_append cX1_append 3 (some .int) 0 0 0 0 [.ref a0, .int x1, .int x2] z (hp_Qi G rq zq) := by
  refine hp_M.of (by decide) (Nat.le_of_ble_eq_true rfl) ?_
  intro p e s m below meth c X hr hlocks hnm hP hS ls hl
  have X : hp_C G cX1_append RX1 3 p s m c := X
  have hl : lv_has ls 3 [(0, .ref a0), (1, .int x1), (2, .int x2)] := hl
  have hx := X.1
  have hb := X.2.1
  unfold f_X1_append at h
  refine lv_aload_n hx hb dX1_append_0 rfl (lv_at hl 0 rfl) ?_
  obtain ⟨v1, q, h⟩ := ho_bd h
  refine hw_gi X hP LX1 fX1_24 rfl q dX1_append_1 ?_
  refine lv_aload_n hx hb dX1_append_4 rfl (lv_at hl 0 rfl) ?_
  obtain ⟨r2, q, h⟩ := ho_bd h
  refine hw_gr X hP LX1 fX1_15 rfl q dX1_append_5 ?_
  obtain ⟨v3, q, h⟩ := ho_bd h
  refine hw_ln (t0 := 0) X hP (by decide) (by decide) rfl q dX1_append_8 ?_
  refine lv_icmp_lt (tgt := 15) hx hb dX1_append_9 (by decide) (fun hc => ?_) (fun hc => ?_)
  · replace h := ho_ip hc h
    refine lv_aload_n hx hb dX1_append_15 rfl (lv_at hl 0 rfl) ?_
    obtain ⟨r4, q, h⟩ := ho_bd h
    refine hw_gr X hP LX1 fX1_15 rfl q dX1_append_16 ?_
    refine lv_aload_n hx hb dX1_append_19 rfl (lv_at hl 0 rfl) ?_
    obtain ⟨v5, q, h⟩ := ho_bd h
    refine hw_gi X hP LX1 fX1_24 rfl q dX1_append_20 ?_
    refine lv_iload_n hx hb dX1_append_23 rfl (lv_at hl 1 rfl) ?_
    obtain ⟨z, q, h⟩ := ho_bd h
    refine hw_si X hP hS q dX1_append_24 (fun H locs hP hS => ?_)
    refine lv_aload_n hx hb dX1_append_25 rfl (lv_at hl 0 rfl) ?_
    obtain ⟨r6, q, h⟩ := ho_bd h
    refine hw_gr X hP LX1 fX1_21 rfl q dX1_append_26 ?_
    refine lv_aload_n hx hb dX1_append_29 rfl (lv_at hl 0 rfl) ?_
    obtain ⟨v7, q, h⟩ := ho_bd h
    refine hw_gi X hP LX1 fX1_24 rfl q dX1_append_30 ?_
    refine lv_iload_n hx hb dX1_append_33 rfl (lv_at hl 2 rfl) ?_
    obtain ⟨z, q, h⟩ := ho_bd h
    refine hw_si X hP hS q dX1_append_34 (fun H locs hP hS => ?_)
    refine lv_aload_n hx hb dX1_append_35 rfl (lv_at hl 0 rfl) ?_
    refine lv_dup hx hb dX1_append_36 rfl ?_
    obtain ⟨v8, q, h⟩ := ho_bd h
    refine hw_gi X hP LX1 fX1_24 rfl q dX1_append_37 ?_
    refine lv_iconst (v := 1) hx hb dX1_append_40 (by decide) ?_
    refine lv_iadd hx hb dX1_append_41 ?_
    obtain ⟨z, q, h⟩ := ho_bd h
    refine hw_pi X hP hS LX1 fX1_24 rfl rfl rfl q dX1_append_42 (fun H locs hP hS => ?_)
    refine lv_aload_n hx hb dX1_append_45 rfl (lv_at hl 0 rfl) ?_
    obtain ⟨v9, q, h⟩ := ho_bd h
    refine hw_gi X hP LX1 fX1_24 rfl q dX1_append_46 ?_
    exact hw_iret X hP hS hr hlocks h dX1_append_49
  · replace h := ho_in hc h
    refine lv_bipush (v := (-3)) hx hb dX1_append_12 (by decide) ?_
    exact hw_iret X hP hS hr hlocks h dX1_append_14
def f_X6_repeat_B19 (fu : Nat) (a0 : Nat) (x1 : Int32) (x2 : Int32) (z : hp_S) : Option (Int32 × hp_S) :=
  some ((-2), z)
def f_X6_repeat (fu : Nat) (a0 : Nat) (x1 : Int32) (x2 : Int32) (z : hp_S) : Option (Int32 × hp_S) :=
  (f_X6_isTime fu x1 z).bind fun ⟨v1, z⟩ =>
  if v1 = 0 then (
    f_X6_repeat_B19 fu a0 x1 x2  z
  ) else (
    (f_X6_isTime fu x2 z).bind fun ⟨v2, z⟩ =>
    if v2 = 0 then (
      f_X6_repeat_B19 fu a0 x1 x2  z
    ) else (
      if x1 < x2 then (
        (ho_gr 6 a0 2 z).bind fun r3 =>
        (ho_is 1 r3 z).bind fun _ =>
        (f_X1_append fu r3 x1 x2 z).bind fun ⟨v4, z⟩ =>
        some (v4, z)
      ) else (
        f_X6_repeat_B19 fu a0 x1 x2  z
      )
    )
  )
set_option maxHeartbeats 4000000 in
set_option maxRecDepth 100000 in
theorem c_X6_repeat (l : Launch) (G : hp_G) (fu : Nat) (a0 : Nat) (x1 : Int32) (x2 : Int32) (z : hp_S) (rq : Int32) (zq : hp_S) (h : f_X6_repeat fu a0 x1 x2 z = some (rq, zq)) : hp_M l G yX6_repeat cX6_repeat 3 (some .int) 2 42 0 0 [.ref a0, .int x1, .int x2] z (hp_Qi G rq zq) := by
  refine hp_M.of (by decide) (Nat.le_of_ble_eq_true rfl) ?_
  intro p e s m below meth c X hr hlocks hnm hP hS ls hl
  have X : hp_C G cX6_repeat RX6 3 p s m c := X
  have hl : lv_has ls 3 [(0, .ref a0), (1, .int x1), (2, .int x2)] := hl
  have hx := X.1
  have hb := X.2.1
  have B19 : ∀ (z : hp_S) (H : Heap) (locs : List Loc) (ls : Array Slot), f_X6_repeat_B19 fu a0 x1 x2 z = some (rq, zq) → hp_P G z H → va_S (hp_A G) s.heap H locs → lv_has ls 3 [(0, .ref a0), (1, .int x1), (2, .int x2)] → W p l e (hp_rm 2 42 0 0) s m [.ref a0, .int x1, .int x2].toArray below meth c H locs 0 0 (MQ below (hp_Qi G rq zq) [.ref a0, .int x1, .int x2].toArray s 0 0 (hp_A G)) (F0 m 19 ls []) := by
    intro z H locs ls h hP hS hl
    unfold f_X6_repeat_B19 at h
    refine lv_bipush (v := (-2)) hx hb dX6_repeat_19 (by decide) ?_
    exact hw_iret X hP hS hr hlocks h dX6_repeat_21
  unfold f_X6_repeat at h
  refine lv_iload_n hx hb dX6_repeat_0 rfl (lv_at hl 1 rfl) ?_
  obtain ⟨⟨v1, z⟩, q, h⟩ := ho_bd h
  refine hw_ci hS (hp_runS (As := [.int x1]) (rest := []) X hP hS hl.1 kX6_94 m2_38 (c_X6_isTime l G fu x1 _ _ _ q) rfl (Nat.le_of_ble_eq_true rfl) ⟨⟨Nat.le_of_ble_eq_true rfl, Nat.le_of_ble_eq_true rfl⟩, Nat.le_of_ble_eq_true rfl, Nat.le_of_ble_eq_true rfl⟩ dX6_repeat_1) (fun H locs hP hS => ?_)
  refine lv_if_eq (tgt := 19) hx hb dX6_repeat_4 (by decide) (fun hc => ?_) (fun hc => ?_)
  · replace h := ho_ip hc h
    exact B19 z _ _ _ h hP hS (lv_sub hl [0, 1, 2] rfl)
  · replace h := ho_in hc h
    refine lv_iload_n hx hb dX6_repeat_7 rfl (lv_at hl 2 rfl) ?_
    obtain ⟨⟨v2, z⟩, q, h⟩ := ho_bd h
    refine hw_ci hS (hp_runS (As := [.int x2]) (rest := []) X hP hS hl.1 kX6_94 m2_38 (c_X6_isTime l G fu x2 _ _ _ q) rfl (Nat.le_of_ble_eq_true rfl) ⟨⟨Nat.le_of_ble_eq_true rfl, Nat.le_of_ble_eq_true rfl⟩, Nat.le_of_ble_eq_true rfl, Nat.le_of_ble_eq_true rfl⟩ dX6_repeat_8) (fun H locs hP hS => ?_)
    refine lv_if_eq (tgt := 19) hx hb dX6_repeat_11 (by decide) (fun hc => ?_) (fun hc => ?_)
    · replace h := ho_ip hc h
      exact B19 z _ _ _ h hP hS (lv_sub hl [0, 1, 2] rfl)
    · replace h := ho_in hc h
      refine lv_iload_n hx hb dX6_repeat_14 rfl (lv_at hl 1 rfl) ?_
      refine lv_iload_n hx hb dX6_repeat_15 rfl (lv_at hl 2 rfl) ?_
      refine lv_icmp_lt (tgt := 22) hx hb dX6_repeat_16 (by decide) (fun hc => ?_) (fun hc => ?_)
      · replace h := ho_ip hc h
        refine lv_aload_n hx hb dX6_repeat_22 rfl (lv_at hl 0 rfl) ?_
        obtain ⟨r3, q, h⟩ := ho_bd h
        refine hw_gr X hP LX6 fX6_37 rfl q dX6_repeat_23 ?_
        refine lv_iload_n hx hb dX6_repeat_26 rfl (lv_at hl 1 rfl) ?_
        refine lv_iload_n hx hb dX6_repeat_27 rfl (lv_at hl 2 rfl) ?_
        obtain ⟨_, hs, h⟩ := ho_bd h
        obtain ⟨⟨v4, z⟩, q, h⟩ := ho_bd h
        refine hw_ci hS (hp_runV (As := [.int x1, .int x2]) (rest := []) X hP hS hl.1 LX1 (ho_is_s hs) kX6_128 ⟨m2_113, m2_114⟩ (c_X1_append l G fu r3 x1 x2 _ _ _ q) rfl (Nat.le_of_ble_eq_true rfl) ⟨⟨Nat.le_of_ble_eq_true rfl, Nat.le_of_ble_eq_true rfl⟩, Nat.le_of_ble_eq_true rfl, Nat.le_of_ble_eq_true rfl⟩ dX6_repeat_28) (fun H locs hP hS => ?_)
        exact hw_iret X hP hS hr hlocks h dX6_repeat_31
      · replace h := ho_in hc h
        exact B19 z _ _ _ h hP hS (lv_sub hl [0, 1, 2] rfl)
def f_X1_holds_B38 (fu : Nat) (a0 : Nat) (x1 : Int32) (x2 : Int32) (z : hp_S) : Option (Int32 × hp_S) :=
  if vp_nar .boolean 0 = 0 then some (0, z) else none
def f_X1_holds_B32 (fu : Nat) (a0 : Nat) (x1 : Int32) (x2 : Int32) (ag : Int32 → hp_S → Option (Int32 × hp_S)) (kk : hp_S → Option (Int32 × hp_S)) (w3 : Int32) (z : hp_S) : Option (Int32 × hp_S) :=
  (ho_id (w3 + 1)).bind fun v4 =>
  ag v4 z
def f_X1_holds_L2 (fu : Nat) (a0 : Nat) (x1 : Int32) (x2 : Int32) (kk : hp_S → Option (Int32 × hp_S)) : Nat → Int32 → hp_S → Option (Int32 × hp_S)
  | 0, _, _ => none
  | n + 1, w3, z =>
    (ho_gi 1 a0 2 z).bind fun v1 =>
    if v1 ≤ w3 then (
      kk  z
    ) else (
      (ho_gr 1 a0 0 z).bind fun r2 =>
      (ho_li 1 r2 w3 z).bind fun v3 =>
      if v3 = x1 then (
        (ho_gr 1 a0 1 z).bind fun r5 =>
        (ho_li 1 r5 w3 z).bind fun v6 =>
        if v6 = x2 then (
          if vp_nar .boolean 1 = 1 then some (1, z) else none
        ) else (
          f_X1_holds_B32 fu a0 x1 x2 (f_X1_holds_L2 fu a0 x1 x2 kk n) kk w3 z
        )
      ) else (
        f_X1_holds_B32 fu a0 x1 x2 (f_X1_holds_L2 fu a0 x1 x2 kk n) kk w3 z
      )
    )
def f_X1_holds (fu : Nat) (a0 : Nat) (x1 : Int32) (x2 : Int32) (z : hp_S) : Option (Int32 × hp_S) :=
  f_X1_holds_L2 fu a0 x1 x2 (f_X1_holds_B38 fu a0 x1 x2) fu 0 z
set_option maxHeartbeats 4000000 in
set_option maxRecDepth 100000 in
theorem c_X1_holds (l : Launch) (G : hp_G) (fu : Nat) (a0 : Nat) (x1 : Int32) (x2 : Int32) (z : hp_S) (rq : Int32) (zq : hp_S) (h : f_X1_holds fu a0 x1 x2 z = some (rq, zq)) : hp_M l G yX1_holds cX1_holds 4 (some .boolean) 0 0 0 0 [.ref a0, .int x1, .int x2] z (hp_Qi G rq zq) := by
  refine hp_M.of (by decide) (Nat.le_of_ble_eq_true rfl) ?_
  intro p e s m below meth c X hr hlocks hnm hP hS ls hl
  have X : hp_C G cX1_holds RX1 4 p s m c := X
  have hl : lv_has ls 4 [(0, .ref a0), (1, .int x1), (2, .int x2)] := hl
  have hx := X.1
  have hb := X.2.1
  have B38 : ∀ (z : hp_S) (H : Heap) (locs : List Loc) (ls : Array Slot), f_X1_holds_B38 fu a0 x1 x2 z = some (rq, zq) → hp_P G z H → va_S (hp_A G) s.heap H locs → lv_has ls 4 [(0, .ref a0), (1, .int x1), (2, .int x2)] → W p l e (hp_rm 0 0 0 0) s m [.ref a0, .int x1, .int x2].toArray below meth c H locs 0 0 (MQ below (hp_Qi G rq zq) [.ref a0, .int x1, .int x2].toArray s 0 0 (hp_A G)) (F0 m 38 ls []) := by
    intro z H locs ls h hP hS hl
    unfold f_X1_holds_B38 at h
    refine lv_iconst (v := 0) hx hb dX1_holds_38 (by decide) ?_
    exact hw_zret X hP hS hr hlocks h dX1_holds_39
  have L2 : ∀ (n2 : Nat) (w3 : Int32) (z : hp_S) (H : Heap) (locs : List Loc) (ls : Array Slot), f_X1_holds_L2 fu a0 x1 x2 (f_X1_holds_B38 fu a0 x1 x2) n2 w3 z = some (rq, zq) → hp_P G z H → va_S (hp_A G) s.heap H locs → lv_has ls 4 [(0, .ref a0), (1, .int x1), (2, .int x2), (3, .int w3)] → W p l e (hp_rm 0 0 0 0) s m [.ref a0, .int x1, .int x2].toArray below meth c H locs 0 0 (MQ below (hp_Qi G rq zq) [.ref a0, .int x1, .int x2].toArray s 0 0 (hp_A G)) (F0 m 2 ls []) := by
    intro n2
    induction n2 with
    | zero =>
      intro w3 z H locs ls h
      exact nomatch (h : (none : Option (Int32 × hp_S)) = some (rq, zq))
    | succ n2 ih2 =>
      have B32 : ∀ (w3 : Int32) (z : hp_S) (H : Heap) (locs : List Loc) (ls : Array Slot), f_X1_holds_B32 fu a0 x1 x2 (f_X1_holds_L2 fu a0 x1 x2 (f_X1_holds_B38 fu a0 x1 x2) n2) (f_X1_holds_B38 fu a0 x1 x2) w3 z = some (rq, zq) → hp_P G z H → va_S (hp_A G) s.heap H locs → lv_has ls 4 [(0, .ref a0), (1, .int x1), (2, .int x2), (3, .int w3)] → W p l e (hp_rm 0 0 0 0) s m [.ref a0, .int x1, .int x2].toArray below meth c H locs 0 0 (MQ below (hp_Qi G rq zq) [.ref a0, .int x1, .int x2].toArray s 0 0 (hp_A G)) (F0 m 32 ls []) := by
        intro w3 z H locs ls h hP hS hl
        unfold f_X1_holds_B32 at h
        obtain ⟨v4, q, h⟩ := ho_bd h
        refine lv_iinc (v := v4) (lv' := [(3, .int v4), (0, .ref a0), (1, .int x1), (2, .int x2)]) hx hb dX1_holds_32 hl (k := 3) rfl (Option.some.inj q) (by decide) rfl (fun ls hl => ?_)
        refine lv_goto (tgt := 2) hx hb dX1_holds_35 (by decide) ?_
        exact ih2 v4 z _ _ _ h hP hS (lv_sub hl [1, 2, 3, 0] rfl)
      intro w3 z H locs ls h hP hS hl
      rw [f_X1_holds_L2] at h
      refine lv_iload_n hx hb dX1_holds_2 rfl (lv_at hl 3 rfl) ?_
      refine lv_aload_n hx hb dX1_holds_3 rfl (lv_at hl 0 rfl) ?_
      obtain ⟨v1, q, h⟩ := ho_bd h
      refine hw_gi X hP LX1 fX1_24 rfl q dX1_holds_4 ?_
      refine lv_icmp_ge (tgt := 38) hx hb dX1_holds_7 (by decide) (fun hc => ?_) (fun hc => ?_)
      · replace h := ho_ip hc h
        exact B38 z _ _ _ h hP hS (lv_sub hl [0, 1, 2] rfl)
      · replace h := ho_in hc h
        refine lv_aload_n hx hb dX1_holds_10 rfl (lv_at hl 0 rfl) ?_
        obtain ⟨r2, q, h⟩ := ho_bd h
        refine hw_gr X hP LX1 fX1_15 rfl q dX1_holds_11 ?_
        refine lv_iload_n hx hb dX1_holds_14 rfl (lv_at hl 3 rfl) ?_
        obtain ⟨v3, q, h⟩ := ho_bd h
        refine hw_li X hP q dX1_holds_15 ?_
        refine lv_iload_n hx hb dX1_holds_16 rfl (lv_at hl 1 rfl) ?_
        refine lv_icmp_ne (tgt := 32) hx hb dX1_holds_17 (by decide) (fun hc => ?_) (fun hc => ?_)
        · replace h := ho_in hc h
          exact B32 w3 z _ _ _ h hP hS (lv_sub hl [0, 1, 2, 3] rfl)
        · replace h := ho_ip hc h
          refine lv_aload_n hx hb dX1_holds_20 rfl (lv_at hl 0 rfl) ?_
          obtain ⟨r5, q, h⟩ := ho_bd h
          refine hw_gr X hP LX1 fX1_21 rfl q dX1_holds_21 ?_
          refine lv_iload_n hx hb dX1_holds_24 rfl (lv_at hl 3 rfl) ?_
          obtain ⟨v6, q, h⟩ := ho_bd h
          refine hw_li X hP q dX1_holds_25 ?_
          refine lv_iload_n hx hb dX1_holds_26 rfl (lv_at hl 2 rfl) ?_
          refine lv_icmp_ne (tgt := 32) hx hb dX1_holds_27 (by decide) (fun hc => ?_) (fun hc => ?_)
          · replace h := ho_in hc h
            exact B32 w3 z _ _ _ h hP hS (lv_sub hl [0, 1, 2, 3] rfl)
          · replace h := ho_ip hc h
            refine lv_iconst (v := 1) hx hb dX1_holds_30 (by decide) ?_
            exact hw_zret X hP hS hr hlocks h dX1_holds_31
  unfold f_X1_holds at h
  refine lv_iconst (v := 0) hx hb dX1_holds_0 (by decide) ?_
  refine lv_istore_n (lv' := [(3, .int 0), (0, .ref a0), (1, .int x1), (2, .int x2)]) hx hb dX1_holds_1 rfl hl (by decide) rfl (fun ls hl => ?_)
  exact L2 fu 0 z _ _ _ h hP hS (lv_sub hl [1, 2, 3, 0] rfl)
def f_X6_except_B14 (fu : Nat) (a0 : Nat) (x1 : Int32) (x2 : Int32) (z : hp_S) : Option (Int32 × hp_S) :=
  some ((-2), z)
def f_X6_except (fu : Nat) (a0 : Nat) (x1 : Int32) (x2 : Int32) (z : hp_S) : Option (Int32 × hp_S) :=
  (f_X6_isKind fu x1 z).bind fun ⟨v1, z⟩ =>
  if v1 = 0 then (
    f_X6_except_B14 fu a0 x1 x2  z
  ) else (
    (f_X6_isTime fu x2 z).bind fun ⟨v2, z⟩ =>
    if v2 = 0 then (
      f_X6_except_B14 fu a0 x1 x2  z
    ) else (
      (ho_gr 6 a0 3 z).bind fun r3 =>
      (ho_is 1 r3 z).bind fun _ =>
      (f_X1_holds fu r3 x1 x2 z).bind fun ⟨v4, z⟩ =>
      if v4 = 0 then (
        (ho_gr 6 a0 3 z).bind fun r5 =>
        (ho_is 1 r5 z).bind fun _ =>
        (f_X1_append fu r5 x1 x2 z).bind fun ⟨v6, z⟩ =>
        some (v6, z)
      ) else (
        some ((-1), z)
      )
    )
  )
set_option maxHeartbeats 4000000 in
set_option maxRecDepth 100000 in
theorem c_X6_except (l : Launch) (G : hp_G) (fu : Nat) (a0 : Nat) (x1 : Int32) (x2 : Int32) (z : hp_S) (rq : Int32) (zq : hp_S) (h : f_X6_except fu a0 x1 x2 z = some (rq, zq)) : hp_M l G yX6_except cX6_except 3 (some .int) 2 42 0 0 [.ref a0, .int x1, .int x2] z (hp_Qi G rq zq) := by
  refine hp_M.of (by decide) (Nat.le_of_ble_eq_true rfl) ?_
  intro p e s m below meth c X hr hlocks hnm hP hS ls hl
  have X : hp_C G cX6_except RX6 3 p s m c := X
  have hl : lv_has ls 3 [(0, .ref a0), (1, .int x1), (2, .int x2)] := hl
  have hx := X.1
  have hb := X.2.1
  have B14 : ∀ (z : hp_S) (H : Heap) (locs : List Loc) (ls : Array Slot), f_X6_except_B14 fu a0 x1 x2 z = some (rq, zq) → hp_P G z H → va_S (hp_A G) s.heap H locs → lv_has ls 3 [(0, .ref a0), (1, .int x1), (2, .int x2)] → W p l e (hp_rm 2 42 0 0) s m [.ref a0, .int x1, .int x2].toArray below meth c H locs 0 0 (MQ below (hp_Qi G rq zq) [.ref a0, .int x1, .int x2].toArray s 0 0 (hp_A G)) (F0 m 14 ls []) := by
    intro z H locs ls h hP hS hl
    unfold f_X6_except_B14 at h
    refine lv_bipush (v := (-2)) hx hb dX6_except_14 (by decide) ?_
    exact hw_iret X hP hS hr hlocks h dX6_except_16
  unfold f_X6_except at h
  refine lv_iload_n hx hb dX6_except_0 rfl (lv_at hl 1 rfl) ?_
  obtain ⟨⟨v1, z⟩, q, h⟩ := ho_bd h
  refine hw_ci hS (hp_runS (As := [.int x1]) (rest := []) X hP hS hl.1 kX6_109 m2_66 (c_X6_isKind l G fu x1 _ _ _ q) rfl (Nat.le_of_ble_eq_true rfl) ⟨⟨Nat.le_of_ble_eq_true rfl, Nat.le_of_ble_eq_true rfl⟩, Nat.le_of_ble_eq_true rfl, Nat.le_of_ble_eq_true rfl⟩ dX6_except_1) (fun H locs hP hS => ?_)
  refine lv_if_eq (tgt := 14) hx hb dX6_except_4 (by decide) (fun hc => ?_) (fun hc => ?_)
  · replace h := ho_ip hc h
    exact B14 z _ _ _ h hP hS (lv_sub hl [0, 1, 2] rfl)
  · replace h := ho_in hc h
    refine lv_iload_n hx hb dX6_except_7 rfl (lv_at hl 2 rfl) ?_
    obtain ⟨⟨v2, z⟩, q, h⟩ := ho_bd h
    refine hw_ci hS (hp_runS (As := [.int x2]) (rest := []) X hP hS hl.1 kX6_94 m2_38 (c_X6_isTime l G fu x2 _ _ _ q) rfl (Nat.le_of_ble_eq_true rfl) ⟨⟨Nat.le_of_ble_eq_true rfl, Nat.le_of_ble_eq_true rfl⟩, Nat.le_of_ble_eq_true rfl, Nat.le_of_ble_eq_true rfl⟩ dX6_except_8) (fun H locs hP hS => ?_)
    refine lv_if_ne (tgt := 17) hx hb dX6_except_11 (by decide) (fun hc => ?_) (fun hc => ?_)
    · replace h := ho_in hc h
      refine lv_aload_n hx hb dX6_except_17 rfl (lv_at hl 0 rfl) ?_
      obtain ⟨r3, q, h⟩ := ho_bd h
      refine hw_gr X hP LX6 fX6_41 rfl q dX6_except_18 ?_
      refine lv_iload_n hx hb dX6_except_21 rfl (lv_at hl 1 rfl) ?_
      refine lv_iload_n hx hb dX6_except_22 rfl (lv_at hl 2 rfl) ?_
      obtain ⟨_, hs, h⟩ := ho_bd h
      obtain ⟨⟨v4, z⟩, q, h⟩ := ho_bd h
      refine hw_ci hS (hp_runV (As := [.int x1, .int x2]) (rest := []) X hP hS hl.1 LX1 (ho_is_s hs) kX6_130 ⟨m2_121, m2_122⟩ (c_X1_holds l G fu r3 x1 x2 _ _ _ q) rfl (Nat.le_of_ble_eq_true rfl) ⟨⟨Nat.le_of_ble_eq_true rfl, Nat.le_of_ble_eq_true rfl⟩, Nat.le_of_ble_eq_true rfl, Nat.le_of_ble_eq_true rfl⟩ dX6_except_23) (fun H locs hP hS => ?_)
      refine lv_if_eq (tgt := 31) hx hb dX6_except_26 (by decide) (fun hc => ?_) (fun hc => ?_)
      · replace h := ho_ip hc h
        refine lv_aload_n hx hb dX6_except_31 rfl (lv_at hl 0 rfl) ?_
        obtain ⟨r5, q, h⟩ := ho_bd h
        refine hw_gr X hP LX6 fX6_41 rfl q dX6_except_32 ?_
        refine lv_iload_n hx hb dX6_except_35 rfl (lv_at hl 1 rfl) ?_
        refine lv_iload_n hx hb dX6_except_36 rfl (lv_at hl 2 rfl) ?_
        obtain ⟨_, hs, h⟩ := ho_bd h
        obtain ⟨⟨v6, z⟩, q, h⟩ := ho_bd h
        refine hw_ci hS (hp_runV (As := [.int x1, .int x2]) (rest := []) X hP hS hl.1 LX1 (ho_is_s hs) kX6_128 ⟨m2_113, m2_114⟩ (c_X1_append l G fu r5 x1 x2 _ _ _ q) rfl (Nat.le_of_ble_eq_true rfl) ⟨⟨Nat.le_of_ble_eq_true rfl, Nat.le_of_ble_eq_true rfl⟩, Nat.le_of_ble_eq_true rfl, Nat.le_of_ble_eq_true rfl⟩ dX6_except_37) (fun H locs hP hS => ?_)
        exact hw_iret X hP hS hr hlocks h dX6_except_40
      · replace h := ho_in hc h
        refine lv_iconst (v := (-1)) hx hb dX6_except_29 (by decide) ?_
        exact hw_iret X hP hS hr hlocks h dX6_except_30
    · replace h := ho_ip hc h
      exact B14 z _ _ _ h hP hS (lv_sub hl [0, 1, 2] rfl)
