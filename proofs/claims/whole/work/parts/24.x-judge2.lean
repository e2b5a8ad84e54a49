def f_X3_isLeap_B24 (fu : Nat) (x0 : Int32) (x1 : Int32) (z : hp_S) : Option (Int32 × hp_S) :=
  if vp_nar .boolean 1 = 1 then some (1, z) else none
def f_X3_isLeap_B64 (fu : Nat) (x0 : Int32) (x1 : Int32) (s0 : Int32) (z : hp_S) : Option (Int32 × hp_S) :=
  if vp_nar .boolean s0 = s0 then some (s0, z) else none
def f_X3_isLeap_B59 (fu : Nat) (x0 : Int32) (x1 : Int32) (z : hp_S) : Option (Int32 × hp_S) :=
  f_X3_isLeap_B64 fu x0 x1 1 z
def f_X3_isLeap (fu : Nat) (x0 : Int32) (x1 : Int32) (z : hp_S) : Option (Int32 × hp_S) :=
  if 12 < x1 then (
    f_X3_isLeap_B24 fu x0 x1  z
  ) else (
    if x1 = 6 then (
      f_X3_isLeap_B24 fu x0 x1  z
    ) else (
      if x1 = 10 then (
        f_X3_isLeap_B24 fu x0 x1  z
      ) else (
        if x1 = 11 then (
          f_X3_isLeap_B24 fu x0 x1  z
        ) else (
          (ho_dv x0 7).bind fun v1 =>
          (ho_id (x1 - (12 * v1))).bind fun v2 =>
          (ho_rm x0 7).bind fun v3 =>
          (ho_tl h_t4 v3).bind fun v4 =>
          if v2 < v4 then (
            f_X3_isLeap_B59 fu x0 x1  z
          ) else (
            (ho_tl h_t5 v3).bind fun v5 =>
            if v2 ≤ v5 then (
              f_X3_isLeap_B64 fu x0 x1 0 z
            ) else (
              f_X3_isLeap_B59 fu x0 x1  z
            )
          )
        )
      )
    )
  )
set_option maxHeartbeats 4000000 in
set_option maxRecDepth 100000 in
theorem c_X3_isLeap (l : Launch) (G : hp_G) (fu : Nat) (x0 : Int32) (x1 : Int32) (z : hp_S) (rq : Int32) (zq : hp_S) (h : f_X3_isLeap fu x0 x1 z = some (rq, zq)) : hp_M l G yX3_isLeap cX3_isLeap 4 (some .boolean) 0 0 0 0 [.int x0, .int x1] z (hp_Qi G rq zq) := by
  refine hp_M.of (by decide) (Nat.le_of_ble_eq_true rfl) ?_
  intro p e s m below meth c X hr hlocks hnm hP hS ls hl
  have X : hp_C G cX3_isLeap RX3 4 p s m c := X
  have hl : lv_has ls 4 [(0, .int x0), (1, .int x1)] := hl
  have hx := X.1
  have hb := X.2.1
  have B24 : ∀ (z : hp_S) (H : Heap) (locs : List Loc) (ls : Array Slot), f_X3_isLeap_B24 fu x0 x1 z = some (rq, zq) → hp_P G z H → va_S (hp_A G) s.heap H locs → lv_has ls 4 [(0, .int x0), (1, .int x1)] → W p l e (hp_rm 0 0 0 0) s m [.int x0, .int x1].toArray below meth c H locs 0 0 (MQ below (hp_Qi G rq zq) [.int x0, .int x1].toArray s 0 0 (hp_A G)) (F0 m 24 ls []) := by
    intro z H locs ls h hP hS hl
    unfold f_X3_isLeap_B24 at h
    refine lv_iconst (v := 1) hx hb dX3_isLeap_24 (by decide) ?_
    exact hw_zret X hP hS hr hlocks h dX3_isLeap_25
  have B64 : ∀ (s0 : Int32) (z : hp_S) (H : Heap) (locs : List Loc) (ls : Array Slot), f_X3_isLeap_B64 fu x0 x1 s0 z = some (rq, zq) → hp_P G z H → va_S (hp_A G) s.heap H locs → lv_has ls 4 [(0, .int x0), (1, .int x1)] → W p l e (hp_rm 0 0 0 0) s m [.int x0, .int x1].toArray below meth c H locs 0 0 (MQ below (hp_Qi G rq zq) [.int x0, .int x1].toArray s 0 0 (hp_A G)) (F0 m 64 ls [.int s0]) := by
    intro s0 z H locs ls h hP hS hl
    unfold f_X3_isLeap_B64 at h
    exact hw_zret X hP hS hr hlocks h dX3_isLeap_64
  have B59 : ∀ (z : hp_S) (H : Heap) (locs : List Loc) (ls : Array Slot), f_X3_isLeap_B59 fu x0 x1 z = some (rq, zq) → hp_P G z H → va_S (hp_A G) s.heap H locs → lv_has ls 4 [(0, .int x0), (1, .int x1)] → W p l e (hp_rm 0 0 0 0) s m [.int x0, .int x1].toArray below meth c H locs 0 0 (MQ below (hp_Qi G rq zq) [.int x0, .int x1].toArray s 0 0 (hp_A G)) (F0 m 59 ls []) := by
    intro z H locs ls h hP hS hl
    unfold f_X3_isLeap_B59 at h
    refine lv_iconst (v := 1) hx hb dX3_isLeap_59 (by decide) ?_
    refine lv_goto (tgt := 64) hx hb dX3_isLeap_60 (by decide) ?_
    exact B64 1 z _ _ _ h hP hS (lv_sub hl [0, 1] rfl)
  unfold f_X3_isLeap at h
  refine lv_iload_n hx hb dX3_isLeap_0 rfl (lv_at hl 1 rfl) ?_
  refine lv_bipush (v := 12) hx hb dX3_isLeap_1 (by decide) ?_
  refine lv_icmp_gt (tgt := 24) hx hb dX3_isLeap_3 (by decide) (fun hc => ?_) (fun hc => ?_)
  · replace h := ho_ip hc h
    exact B24 z _ _ _ h hP hS (lv_sub hl [0, 1] rfl)
  · replace h := ho_in hc h
    refine lv_iload_n hx hb dX3_isLeap_6 rfl (lv_at hl 1 rfl) ?_
    refine lv_bipush (v := 6) hx hb dX3_isLeap_7 (by decide) ?_
    refine lv_icmp_eq (tgt := 24) hx hb dX3_isLeap_9 (by decide) (fun hc => ?_) (fun hc => ?_)
    · replace h := ho_ip hc h
      exact B24 z _ _ _ h hP hS (lv_sub hl [0, 1] rfl)
    · replace h := ho_in hc h
      refine lv_iload_n hx hb dX3_isLeap_12 rfl (lv_at hl 1 rfl) ?_
      refine lv_bipush (v := 10) hx hb dX3_isLeap_13 (by decide) ?_
      refine lv_icmp_eq (tgt := 24) hx hb dX3_isLeap_15 (by decide) (fun hc => ?_) (fun hc => ?_)
      · replace h := ho_ip hc h
        exact B24 z _ _ _ h hP hS (lv_sub hl [0, 1] rfl)
      · replace h := ho_in hc h
        refine lv_iload_n hx hb dX3_isLeap_18 rfl (lv_at hl 1 rfl) ?_
        refine lv_bipush (v := 11) hx hb dX3_isLeap_19 (by decide) ?_
        refine lv_icmp_ne (tgt := 26) hx hb dX3_isLeap_21 (by decide) (fun hc => ?_) (fun hc => ?_)
        · replace h := ho_in hc h
          refine lv_iload_n hx hb dX3_isLeap_26 rfl (lv_at hl 1 rfl) ?_
          refine lv_bipush (v := 12) hx hb dX3_isLeap_27 (by decide) ?_
          refine lv_iload_n hx hb dX3_isLeap_29 rfl (lv_at hl 0 rfl) ?_
          refine lv_bipush (v := 7) hx hb dX3_isLeap_30 (by decide) ?_
          obtain ⟨v1, q, h⟩ := ho_bd h
          refine hw_dv X q dX3_isLeap_32 ?_
          refine lv_imul hx hb dX3_isLeap_33 ?_
          refine lv_isub hx hb dX3_isLeap_34 ?_
          obtain ⟨v2, q, h⟩ := ho_bd h
          refine hw_id q ?_
          refine lv_istore_n (lv' := [(2, .int v2), (0, .int x0), (1, .int x1)]) hx hb dX3_isLeap_35 rfl hl (by decide) rfl (fun ls hl => ?_)
          refine lv_iload_n hx hb dX3_isLeap_36 rfl (lv_at hl 1 rfl) ?_
          refine lv_bipush (v := 7) hx hb dX3_isLeap_37 (by decide) ?_
          obtain ⟨v3, q, h⟩ := ho_bd h
          refine hw_rm X q dX3_isLeap_39 ?_
          refine lv_istore_n (lv' := [(3, .int v3), (2, .int v2), (0, .int x0), (1, .int x1)]) hx hb dX3_isLeap_40 rfl hl (by decide) rfl (fun ls hl => ?_)
          refine lv_iload_n hx hb dX3_isLeap_41 rfl (lv_at hl 1 rfl) ?_
          refine hw_gsN (q := h_q4) X hS h_s4 m2_224 dX3_isLeap_42 ?_
          refine lv_iload_n hx hb dX3_isLeap_45 rfl (lv_at hl 0 rfl) ?_
          obtain ⟨v4, q, h⟩ := ho_bd h
          refine hw_tl (q := h_q4) X hS h_s4 q dX3_isLeap_46 ?_
          refine lv_icmp_lt (tgt := 59) hx hb dX3_isLeap_47 (by decide) (fun hc => ?_) (fun hc => ?_)
          · replace h := ho_ip hc h
            exact B59 z _ _ _ h hP hS (lv_sub hl [2, 3] rfl)
          · replace h := ho_in hc h
            refine lv_iload_n hx hb dX3_isLeap_50 rfl (lv_at hl 1 rfl) ?_
            refine hw_gsN (q := h_q5) X hS h_s5 m2_226 dX3_isLeap_51 ?_
            refine lv_iload_n hx hb dX3_isLeap_54 rfl (lv_at hl 0 rfl) ?_
            obtain ⟨v5, q, h⟩ := ho_bd h
            refine hw_tl (q := h_q5) X hS h_s5 q dX3_isLeap_55 ?_
            refine lv_icmp_le (tgt := 63) hx hb dX3_isLeap_56 (by decide) (fun hc => ?_) (fun hc => ?_)
            · replace h := ho_ip hc h
              refine lv_iconst (v := 0) hx hb dX3_isLeap_63 (by decide) ?_
              exact B64 0 z _ _ _ h hP hS (lv_sub hl [2, 3] rfl)
            · replace h := ho_in hc h
              exact B59 z _ _ _ h hP hS (lv_sub hl [2, 3] rfl)
        · replace h := ho_ip hc h
          exact B24 z _ _ _ h hP hS (lv_sub hl [0, 1] rfl)
def f_X0_stepsUp (fu : Nat) (a0 : Nat) (x1 : Int32) (x2 : Int32) (z : hp_S) : Option (Int32 × hp_S) :=
  (ho_gr 0 a0 1 z).bind fun r1 =>
  (ho_li 1 r1 x2 z).bind fun v2 =>
  (ho_gr 0 a0 1 z).bind fun r3 =>
  (ho_li 1 r3 x1 z).bind fun v4 =>
  some ((v2 - v4), z)
set_option maxHeartbeats 4000000 in
set_option maxRecDepth 100000 in
theorem c_X0_stepsUp (l : Launch) (G : hp_G) (fu : Nat) (a0 : Nat) (x1 : Int32) (x2 : Int32) (z : hp_S) (rq : Int32) (zq : hp_S) (h : f_X0_stepsUp fu a0 x1 x2 z = some (rq, zq)) : hp_M l G yX0_stepsUp cX0_stepsUp 3 (some .int) 0 0 0 0 [.ref a0, .int x1, .int x2] z (hp_Qi G rq zq) := by
  refine hp_M.of (by decide) (Nat.le_of_ble_eq_true rfl) ?_
  intro p e s m below meth c X hr hlocks hnm hP hS ls hl
  have X : hp_C G cX0_stepsUp RX0 3 p s m c := X
  have hl : lv_has ls 3 [(0, .ref a0), (1, .int x1), (2, .int x2)] := hl
  have hx := X.1
  have hb := X.2.1
  unfold f_X0_stepsUp at h
  refine lv_aload_n hx hb dX0_stepsUp_0 rfl (lv_at hl 0 rfl) ?_
  obtain ⟨r1, q, h⟩ := ho_bd h
  refine hw_gr X hP LX0 fX0_15 rfl q dX0_stepsUp_1 ?_
  refine lv_iload_n hx hb dX0_stepsUp_4 rfl (lv_at hl 2 rfl) ?_
  obtain ⟨v2, q, h⟩ := ho_bd h
  refine hw_li X hP q dX0_stepsUp_5 ?_
  refine lv_aload_n hx hb dX0_stepsUp_6 rfl (lv_at hl 0 rfl) ?_
  obtain ⟨r3, q, h⟩ := ho_bd h
  refine hw_gr X hP LX0 fX0_15 rfl q dX0_stepsUp_7 ?_
  refine lv_iload_n hx hb dX0_stepsUp_10 rfl (lv_at hl 1 rfl) ?_
  obtain ⟨v4, q, h⟩ := ho_bd h
  refine hw_li X hP q dX0_stepsUp_11 ?_
  refine lv_isub hx hb dX0_stepsUp_12 ?_
  exact hw_iret X hP hS hr hlocks h dX0_stepsUp_13
def f_X3_lookAtMove_B161 (fu : Nat) (a0 : Nat) (x1 : Int32) (s0 : Int32) (s1 : Int32) (s2 : Int32) (s3 : Nat) (z : hp_S) : Option hp_S :=
  (ho_is 3 s3 z).bind fun _ =>
  (f_X3_alone fu s3 s2 s1 s0 z).bind fun z =>
  some z
def f_X3_lookAtMove_B160 (fu : Nat) (a0 : Nat) (x1 : Int32) (s0 : Int32) (s1 : Int32) (s2 : Nat) (z : hp_S) : Option hp_S :=
  f_X3_lookAtMove_B161 fu a0 x1 0 s0 s1 s2 z
def f_X3_lookAtMove_B140 (fu : Nat) (a0 : Nat) (x1 : Int32) (w2 : Int32) (s0 : Int32) (z : hp_S) : Option hp_S :=
  if s0 = 0 then (
    f_X3_lookAtMove_B160 fu a0 x1 x1 10 a0 z
  ) else (
    if w2 = (-1) then (
      f_X3_lookAtMove_B160 fu a0 x1 x1 10 a0 z
    ) else (
      f_X3_lookAtMove_B161 fu a0 x1 1 x1 10 a0 z
    )
  )
def f_X3_lookAtMove_B139 (fu : Nat) (a0 : Nat) (x1 : Int32) (w2 : Int32) (z : hp_S) : Option hp_S :=
  f_X3_lookAtMove_B140 fu a0 x1 w2 0 z
def f_X3_lookAtMove_B97 (fu : Nat) (a0 : Nat) (x1 : Int32) (w2 : Int32) (s0 : Int32) (s1 : Int32) (s2 : Int32) (s3 : Nat) (z : hp_S) : Option hp_S :=
  (ho_is 3 s3 z).bind fun _ =>
  (f_X3_alone fu s3 s2 s1 s0 z).bind fun z =>
  if x1 ≤ 0 then (
    f_X3_lookAtMove_B139 fu a0 x1 w2 z
  ) else (
    (ho_gr 3 a0 1 z).bind fun r18 =>
    (ho_gr 0 r18 0 z).bind fun r19 =>
    (ho_li 2 r19 0 z).bind fun v20 =>
    if v20 = 0 then (
      f_X3_lookAtMove_B139 fu a0 x1 w2 z
    ) else (
      (ho_gr 3 a0 1 z).bind fun r21 =>
      (ho_is 0 r21 z).bind fun _ =>
      (f_X0_stepsUp fu r21 0 x1 z).bind fun ⟨v22, z⟩ =>
      (f_J9_floorMod fu v22 7 z).bind fun ⟨v23, z⟩ =>
      if v23 = 6 then (
        f_X3_lookAtMove_B140 fu a0 x1 w2 1 z
      ) else (
        f_X3_lookAtMove_B139 fu a0 x1 w2 z
      )
    )
  )
def f_X3_lookAtMove_B96 (fu : Nat) (a0 : Nat) (x1 : Int32) (w2 : Int32) (s0 : Int32) (s1 : Int32) (s2 : Nat) (z : hp_S) : Option hp_S :=
  f_X3_lookAtMove_B97 fu a0 x1 w2 0 s0 s1 s2 z
def f_X3_lookAtMove_B92 (fu : Nat) (a0 : Nat) (x1 : Int32) (w2 : Int32) (s0 : Int32) (s1 : Int32) (s2 : Nat) (z : hp_S) : Option hp_S :=
  f_X3_lookAtMove_B97 fu a0 x1 w2 1 s0 s1 s2 z
def f_X3_lookAtMove_B63 (fu : Nat) (a0 : Nat) (x1 : Int32) (w2 : Int32) (w3 : Int32) (s0 : Int32) (s1 : Int32) (s2 : Int32) (s3 : Nat) (z : hp_S) : Option hp_S :=
  (ho_is 3 s3 z).bind fun _ =>
  (f_X3_alone fu s3 s2 s1 s0 z).bind fun z =>
  (ho_gr 3 a0 1 z).bind fun r16 =>
  (ho_is 3 a0 z).bind fun _ =>
  (f_X3_leads fu a0 r16 x1 z).bind fun ⟨v17, z⟩ =>
  if v17 = 0 then (
    f_X3_lookAtMove_B96 fu a0 x1 w2 x1 8 a0 z
  ) else (
    if w2 = 1 then (
      if w3 = 1 then (
        f_X3_lookAtMove_B96 fu a0 x1 w2 x1 8 a0 z
      ) else (
        f_X3_lookAtMove_B92 fu a0 x1 w2 x1 8 a0 z
      )
    ) else (
      f_X3_lookAtMove_B92 fu a0 x1 w2 x1 8 a0 z
    )
  )
def f_X3_lookAtMove (fu : Nat) (a0 : Nat) (x1 : Int32) (z : hp_S) : Option hp_S :=
  (ho_gr 3 a0 2 z).bind fun r1 =>
  (ho_gr 0 r1 1 z).bind fun r2 =>
  (ho_li 1 r2 x1 z).bind fun v3 =>
  (ho_gr 3 a0 1 z).bind fun r4 =>
  (ho_gr 0 r4 1 z).bind fun r5 =>
  (ho_li 1 r5 x1 z).bind fun v6 =>
  (ho_id (v3 - v6)).bind fun v7 =>
  (ho_gr 3 a0 2 z).bind fun r8 =>
  (ho_gr 0 r8 3 z).bind fun r9 =>
  (ho_li 1 r9 x1 z).bind fun v10 =>
  (ho_gr 3 a0 1 z).bind fun r11 =>
  (ho_gr 0 r11 3 z).bind fun r12 =>
  (ho_li 1 r12 x1 z).bind fun v13 =>
  (ho_id (v10 - v13)).bind fun v14 =>
  if 0 ≤ v7 then (
    (f_X3_isLeap fu v7 v14 z).bind fun ⟨v15, z⟩ =>
    f_X3_lookAtMove_B63 fu a0 x1 v7 v14 v15 x1 7 a0 z
  ) else (
    (f_X3_isLeap fu (-v7) (-v14) z).bind fun ⟨v24, z⟩ =>
    f_X3_lookAtMove_B63 fu a0 x1 v7 v14 v24 x1 7 a0 z
  )
set_option maxHeartbeats 4000000 in
set_option maxRecDepth 100000 in
theorem c_X3_lookAtMove (l : Launch) (G : hp_G) (fu : Nat) (a0 : Nat) (x1 : Int32) (z zq : hp_S) (h : f_X3_lookAtMove fu a0 x1 z = some zq) : hp_M l G yX3_lookAtMove cX3_lookAtMove 5 none 3 72 0 0 [.ref a0, .int x1] z (hp_Qv G zq) := by
  refine hp_M.of (by decide) (Nat.le_of_ble_eq_true rfl) ?_
  intro p e s m below meth c X hr hlocks hnm hP hS ls hl
  have X : hp_C G cX3_lookAtMove RX3 5 p s m c := X
  have hl : lv_has ls 5 [(0, .ref a0), (1, .int x1)] := hl
  have hx := X.1
  have hb := X.2.1
  have B161 : ∀ (s0 : Int32) (s1 : Int32) (s2 : Int32) (s3 : Nat) (z : hp_S) (H : Heap) (locs : List Loc) (ls : Array Slot), f_X3_lookAtMove_B161 fu a0 x1 s0 s1 s2 s3 z = some zq → hp_P G z H → va_S (hp_A G) s.heap H locs → lv_has ls 5 [(0, .ref a0), (1, .int x1)] → W p l e (hp_rm 3 72 0 0) s m [.ref a0, .int x1].toArray below meth c H locs 0 0 (MQ below (hp_Qv G zq) [.ref a0, .int x1].toArray s 0 0 (hp_A G)) (F0 m 161 ls [.int s0, .int s1, .int s2, .ref s3]) := by
    intro s0 s1 s2 s3 z H locs ls h hP hS hl
    unfold f_X3_lookAtMove_B161 at h
    obtain ⟨_, hs, h⟩ := ho_bd h
    obtain ⟨z, q, h⟩ := ho_bd h
    refine hw_cv hS (hp_runV (As := [.int s2, .int s1, .int s0]) (rest := []) X hP hS hl.1 LX3 (ho_is_s hs) kX3_112 ⟨m2_183, mp_9⟩ (c_X3_alone l G fu s3 s2 s1 s0 _ _ q) rfl (Nat.le_of_ble_eq_true rfl) ⟨⟨Nat.le_of_ble_eq_true rfl, Nat.le_of_ble_eq_true rfl⟩, Nat.le_of_ble_eq_true rfl, Nat.le_of_ble_eq_true rfl⟩ dX3_lookAtMove_161) (fun H locs hP hS => ?_)
    exact hw_vret X hP hS hr hlocks h dX3_lookAtMove_164
  have B160 : ∀ (s0 : Int32) (s1 : Int32) (s2 : Nat) (z : hp_S) (H : Heap) (locs : List Loc) (ls : Array Slot), f_X3_lookAtMove_B160 fu a0 x1 s0 s1 s2 z = some zq → hp_P G z H → va_S (hp_A G) s.heap H locs → lv_has ls 5 [(0, .ref a0), (1, .int x1)] → W p l e (hp_rm 3 72 0 0) s m [.ref a0, .int x1].toArray below meth c H locs 0 0 (MQ below (hp_Qv G zq) [.ref a0, .int x1].toArray s 0 0 (hp_A G)) (F0 m 160 ls [.int s0, .int s1, .ref s2]) := by
    intro s0 s1 s2 z H locs ls h hP hS hl
    unfold f_X3_lookAtMove_B160 at h
    refine lv_iconst (v := 0) hx hb dX3_lookAtMove_160 (by decide) ?_
    exact B161 0 s0 s1 s2 z _ _ _ h hP hS (lv_sub hl [0, 1] rfl)
  have B140 : ∀ (w2 : Int32) (s0 : Int32) (z : hp_S) (H : Heap) (locs : List Loc) (ls : Array Slot), f_X3_lookAtMove_B140 fu a0 x1 w2 s0 z = some zq → hp_P G z H → va_S (hp_A G) s.heap H locs → lv_has ls 5 [(0, .ref a0), (1, .int x1), (2, .int w2)] → W p l e (hp_rm 3 72 0 0) s m [.ref a0, .int x1].toArray below meth c H locs 0 0 (MQ below (hp_Qv G zq) [.ref a0, .int x1].toArray s 0 0 (hp_A G)) (F0 m 140 ls [.int s0]) := by
    intro w2 s0 z H locs ls h hP hS hl
    unfold f_X3_lookAtMove_B140 at h
    refine lv_istore (lv' := [(4, .int s0), (0, .ref a0), (1, .int x1), (2, .int w2)]) hx hb dX3_lookAtMove_140 hl (by decide) rfl (fun ls hl => ?_)
    refine lv_aload_n hx hb dX3_lookAtMove_142 rfl (lv_at hl 1 rfl) ?_
    refine lv_bipush (v := 10) hx hb dX3_lookAtMove_143 (by decide) ?_
    refine lv_iload_n hx hb dX3_lookAtMove_145 rfl (lv_at hl 2 rfl) ?_
    refine lv_iload hx hb dX3_lookAtMove_146 (lv_at hl 0 rfl) ?_
    refine lv_if_eq (tgt := 160) hx hb dX3_lookAtMove_148 (by decide) (fun hc => ?_) (fun hc => ?_)
    · replace h := ho_ip hc h
      exact B160 x1 10 a0 z _ _ _ h hP hS (lv_sub hl [1, 2] rfl)
    · replace h := ho_in hc h
      refine lv_iload_n hx hb dX3_lookAtMove_151 rfl (lv_at hl 3 rfl) ?_
      refine lv_iconst (v := (-1)) hx hb dX3_lookAtMove_152 (by decide) ?_
      refine lv_icmp_eq (tgt := 160) hx hb dX3_lookAtMove_153 (by decide) (fun hc => ?_) (fun hc => ?_)
      · replace h := ho_ip hc h
        exact B160 x1 10 a0 z _ _ _ h hP hS (lv_sub hl [1, 2] rfl)
      · replace h := ho_in hc h
        refine lv_iconst (v := 1) hx hb dX3_lookAtMove_156 (by decide) ?_
        refine lv_goto (tgt := 161) hx hb dX3_lookAtMove_157 (by decide) ?_
        exact B161 1 x1 10 a0 z _ _ _ h hP hS (lv_sub hl [1, 2] rfl)
  have B139 : ∀ (w2 : Int32) (z : hp_S) (H : Heap) (locs : List Loc) (ls : Array Slot), f_X3_lookAtMove_B139 fu a0 x1 w2 z = some zq → hp_P G z H → va_S (hp_A G) s.heap H locs → lv_has ls 5 [(0, .ref a0), (1, .int x1), (2, .int w2)] → W p l e (hp_rm 3 72 0 0) s m [.ref a0, .int x1].toArray below meth c H locs 0 0 (MQ below (hp_Qv G zq) [.ref a0, .int x1].toArray s 0 0 (hp_A G)) (F0 m 139 ls []) := by
    intro w2 z H locs ls h hP hS hl
    unfold f_X3_lookAtMove_B139 at h
    refine lv_iconst (v := 0) hx hb dX3_lookAtMove_139 (by decide) ?_
    exact B140 w2 0 z _ _ _ h hP hS (lv_sub hl [0, 1, 2] rfl)
  have B97 : ∀ (w2 : Int32) (s0 : Int32) (s1 : Int32) (s2 : Int32) (s3 : Nat) (z : hp_S) (H : Heap) (locs : List Loc) (ls : Array Slot), f_X3_lookAtMove_B97 fu a0 x1 w2 s0 s1 s2 s3 z = some zq → hp_P G z H → va_S (hp_A G) s.heap H locs → lv_has ls 5 [(0, .ref a0), (1, .int x1), (2, .int w2)] → W p l e (hp_rm 3 72 0 0) s m [.ref a0, .int x1].toArray below meth c H locs 0 0 (MQ below (hp_Qv G zq) [.ref a0, .int x1].toArray s 0 0 (hp_A G)) (F0 m 97 ls [.int s0, .int s1, .int s2, .ref s3]) := by
    intro w2 s0 s1 s2 s3 z H locs ls h hP hS hl
    unfold f_X3_lookAtMove_B97 at h
    obtain ⟨_, hs, h⟩ := ho_bd h
    obtain ⟨z, q, h⟩ := ho_bd h
    refine hw_cv hS (hp_runV (As := [.int s2, .int s1, .int s0]) (rest := []) X hP hS hl.1 LX3 (ho_is_s hs) kX3_112 ⟨m2_183, mp_9⟩ (c_X3_alone l G fu s3 s2 s1 s0 _ _ q) rfl (Nat.le_of_ble_eq_true rfl) ⟨⟨Nat.le_of_ble_eq_true rfl, Nat.le_of_ble_eq_true rfl⟩, Nat.le_of_ble_eq_true rfl, Nat.le_of_ble_eq_true rfl⟩ dX3_lookAtMove_97) (fun H locs hP hS => ?_)
    refine lv_iload_n hx hb dX3_lookAtMove_100 rfl (lv_at hl 1 rfl) ?_
    refine lv_if_le (tgt := 139) hx hb dX3_lookAtMove_101 (by decide) (fun hc => ?_) (fun hc => ?_)
    · replace h := ho_ip hc h
      exact B139 w2 z _ _ _ h hP hS (lv_sub hl [0, 1, 2] rfl)
    · replace h := ho_in hc h
      refine lv_aload_n hx hb dX3_lookAtMove_104 rfl (lv_at hl 0 rfl) ?_
      obtain ⟨r18, q, h⟩ := ho_bd h
      refine hw_gr X hP LX3 fX3_21 rfl q dX3_lookAtMove_105 ?_
      obtain ⟨r19, q, h⟩ := ho_bd h
      refine hw_gr X hP LX0 fX3_93 rfl q dX3_lookAtMove_108 ?_
      refine lv_iconst (v := 0) hx hb dX3_lookAtMove_111 (by decide) ?_
      obtain ⟨v20, q, h⟩ := ho_bd h
      refine hw_lz X hP q dX3_lookAtMove_112 ?_
      refine lv_if_eq (tgt := 139) hx hb dX3_lookAtMove_113 (by decide) (fun hc => ?_) (fun hc => ?_)
      · replace h := ho_ip hc h
        exact B139 w2 z _ _ _ h hP hS (lv_sub hl [0, 1, 2] rfl)
      · replace h := ho_in hc h
        refine lv_aload_n hx hb dX3_lookAtMove_116 rfl (lv_at hl 0 rfl) ?_
        obtain ⟨r21, q, h⟩ := ho_bd h
        refine hw_gr X hP LX3 fX3_21 rfl q dX3_lookAtMove_117 ?_
        refine lv_iconst (v := 0) hx hb dX3_lookAtMove_120 (by decide) ?_
        refine lv_iload_n hx hb dX3_lookAtMove_121 rfl (lv_at hl 1 rfl) ?_
        obtain ⟨_, hs, h⟩ := ho_bd h
        obtain ⟨⟨v22, z⟩, q, h⟩ := ho_bd h
        refine hw_ci hS (hp_runV (As := [.int 0, .int x1]) (rest := []) X hP hS hl.1 LX0 (ho_is_s hs) kX3_148 ⟨m2_229, m2_230⟩ (c_X0_stepsUp l G fu r21 0 x1 _ _ _ q) rfl (Nat.le_of_ble_eq_true rfl) ⟨⟨Nat.le_of_ble_eq_true rfl, Nat.le_of_ble_eq_true rfl⟩, Nat.le_of_ble_eq_true rfl, Nat.le_of_ble_eq_true rfl⟩ dX3_lookAtMove_122) (fun H locs hP hS => ?_)
        refine lv_bipush (v := 7) hx hb dX3_lookAtMove_125 (by decide) ?_
        obtain ⟨⟨v23, z⟩, q, h⟩ := ho_bd h
        refine hw_ci hS (hp_runS (As := [.int v22, .int 7]) (rest := []) X hP hS hl.1 kX3_32 m2_133 (c_J9_floorMod l G fu v22 7 _ _ _ q) rfl (Nat.le_of_ble_eq_true rfl) ⟨⟨Nat.le_of_ble_eq_true rfl, Nat.le_of_ble_eq_true rfl⟩, Nat.le_of_ble_eq_true rfl, Nat.le_of_ble_eq_true rfl⟩ dX3_lookAtMove_127) (fun H locs hP hS => ?_)
        refine lv_bipush (v := 6) hx hb dX3_lookAtMove_130 (by decide) ?_
        refine lv_icmp_ne (tgt := 139) hx hb dX3_lookAtMove_132 (by decide) (fun hc => ?_) (fun hc => ?_)
        · replace h := ho_in hc h
          exact B139 w2 z _ _ _ h hP hS (lv_sub hl [0, 1, 2] rfl)
        · replace h := ho_ip hc h
          refine lv_iconst (v := 1) hx hb dX3_lookAtMove_135 (by decide) ?_
          refine lv_goto (tgt := 140) hx hb dX3_lookAtMove_136 (by decide) ?_
          exact B140 w2 1 z _ _ _ h hP hS (lv_sub hl [0, 1, 2] rfl)
  have B96 : ∀ (w2 : Int32) (s0 : Int32) (s1 : Int32) (s2 : Nat) (z : hp_S) (H : Heap) (locs : List Loc) (ls : Array Slot), f_X3_lookAtMove_B96 fu a0 x1 w2 s0 s1 s2 z = some zq → hp_P G z H → va_S (hp_A G) s.heap H locs → lv_has ls 5 [(0, .ref a0), (1, .int x1), (2, .int w2)] → W p l e (hp_rm 3 72 0 0) s m [.ref a0, .int x1].toArray below meth c H locs 0 0 (MQ below (hp_Qv G zq) [.ref a0, .int x1].toArray s 0 0 (hp_A G)) (F0 m 96 ls [.int s0, .int s1, .ref s2]) := by
    intro w2 s0 s1 s2 z H locs ls h hP hS hl
    unfold f_X3_lookAtMove_B96 at h
    refine lv_iconst (v := 0) hx hb dX3_lookAtMove_96 (by decide) ?_
    exact B97 w2 0 s0 s1 s2 z _ _ _ h hP hS (lv_sub hl [0, 1, 2] rfl)
  have B92 : ∀ (w2 : Int32) (s0 : Int32) (s1 : Int32) (s2 : Nat) (z : hp_S) (H : Heap) (locs : List Loc) (ls : Array Slot), f_X3_lookAtMove_B92 fu a0 x1 w2 s0 s1 s2 z = some zq → hp_P G z H → va_S (hp_A G) s.heap H locs → lv_has ls 5 [(0, .ref a0), (1, .int x1), (2, .int w2)] → W p l e (hp_rm 3 72 0 0) s m [.ref a0, .int x1].toArray below meth c H locs 0 0 (MQ below (hp_Qv G zq) [.ref a0, .int x1].toArray s 0 0 (hp_A G)) (F0 m 92 ls [.int s0, .int s1, .ref s2]) := by
    intro w2 s0 s1 s2 z H locs ls h hP hS hl
    unfold f_X3_lookAtMove_B92 at h
    refine lv_iconst (v := 1) hx hb dX3_lookAtMove_92 (by decide) ?_
    refine lv_goto (tgt := 97) hx hb dX3_lookAtMove_93 (by decide) ?_
    exact B97 w2 1 s0 s1 s2 z _ _ _ h hP hS (lv_sub hl [0, 1, 2] rfl)
  have B63 : ∀ (w2 : Int32) (w3 : Int32) (s0 : Int32) (s1 : Int32) (s2 : Int32) (s3 : Nat) (z : hp_S) (H : Heap) (locs : List Loc) (ls : Array Slot), f_X3_lookAtMove_B63 fu a0 x1 w2 w3 s0 s1 s2 s3 z = some zq → hp_P G z H → va_S (hp_A G) s.heap H locs → lv_has ls 5 [(0, .ref a0), (1, .int x1), (2, .int w2), (3, .int w3)] → W p l e (hp_rm 3 72 0 0) s m [.ref a0, .int x1].toArray below meth c H locs 0 0 (MQ below (hp_Qv G zq) [.ref a0, .int x1].toArray s 0 0 (hp_A G)) (F0 m 63 ls [.int s0, .int s1, .int s2, .ref s3]) := by
    intro w2 w3 s0 s1 s2 s3 z H locs ls h hP hS hl
    unfold f_X3_lookAtMove_B63 at h
    obtain ⟨_, hs, h⟩ := ho_bd h
    obtain ⟨z, q, h⟩ := ho_bd h
    refine hw_cv hS (hp_runV (As := [.int s2, .int s1, .int s0]) (rest := []) X hP hS hl.1 LX3 (ho_is_s hs) kX3_112 ⟨m2_183, mp_9⟩ (c_X3_alone l G fu s3 s2 s1 s0 _ _ q) rfl (Nat.le_of_ble_eq_true rfl) ⟨⟨Nat.le_of_ble_eq_true rfl, Nat.le_of_ble_eq_true rfl⟩, Nat.le_of_ble_eq_true rfl, Nat.le_of_ble_eq_true rfl⟩ dX3_lookAtMove_63) (fun H locs hP hS => ?_)
    refine lv_aload_n hx hb dX3_lookAtMove_66 rfl (lv_at hl 0 rfl) ?_
    refine lv_bipush (v := 8) hx hb dX3_lookAtMove_67 (by decide) ?_
    refine lv_iload_n hx hb dX3_lookAtMove_69 rfl (lv_at hl 1 rfl) ?_
    refine lv_aload_n hx hb dX3_lookAtMove_70 rfl (lv_at hl 0 rfl) ?_
    refine lv_aload_n hx hb dX3_lookAtMove_71 rfl (lv_at hl 0 rfl) ?_
    obtain ⟨r16, q, h⟩ := ho_bd h
    refine hw_gr X hP LX3 fX3_21 rfl q dX3_lookAtMove_72 ?_
    refine lv_iload_n hx hb dX3_lookAtMove_75 rfl (lv_at hl 1 rfl) ?_
    obtain ⟨_, hs, h⟩ := ho_bd h
    obtain ⟨⟨v17, z⟩, q, h⟩ := ho_bd h
    refine hw_ci hS (hp_runV (As := [.ref r16, .int x1]) (rest := [.int x1, .int 8, .ref a0]) X hP hS hl.1 LX3 (ho_is_s hs) kX3_127 ⟨m2_203, mp_12⟩ (c_X3_leads l G fu a0 r16 x1 _ _ _ q) rfl (Nat.le_of_ble_eq_true rfl) ⟨⟨Nat.le_of_ble_eq_true rfl, Nat.le_of_ble_eq_true rfl⟩, Nat.le_of_ble_eq_true rfl, Nat.le_of_ble_eq_true rfl⟩ dX3_lookAtMove_76) (fun H locs hP hS => ?_)
    refine lv_if_eq (tgt := 96) hx hb dX3_lookAtMove_79 (by decide) (fun hc => ?_) (fun hc => ?_)
    · replace h := ho_ip hc h
      exact B96 w2 x1 8 a0 z _ _ _ h hP hS (lv_sub hl [0, 1, 2] rfl)
    · replace h := ho_in hc h
      refine lv_iload_n hx hb dX3_lookAtMove_82 rfl (lv_at hl 2 rfl) ?_
      refine lv_iconst (v := 1) hx hb dX3_lookAtMove_83 (by decide) ?_
      refine lv_icmp_ne (tgt := 92) hx hb dX3_lookAtMove_84 (by decide) (fun hc => ?_) (fun hc => ?_)
      · replace h := ho_in hc h
        exact B92 w2 x1 8 a0 z _ _ _ h hP hS (lv_sub hl [0, 1, 2] rfl)
      · replace h := ho_ip hc h
        refine lv_iload_n hx hb dX3_lookAtMove_87 rfl (lv_at hl 3 rfl) ?_
        refine lv_iconst (v := 1) hx hb dX3_lookAtMove_88 (by decide) ?_
        refine lv_icmp_eq (tgt := 96) hx hb dX3_lookAtMove_89 (by decide) (fun hc => ?_) (fun hc => ?_)
        · replace h := ho_ip hc h
          exact B96 w2 x1 8 a0 z _ _ _ h hP hS (lv_sub hl [0, 1, 2] rfl)
        · replace h := ho_in hc h
          exact B92 w2 x1 8 a0 z _ _ _ h hP hS (lv_sub hl [0, 1, 2] rfl)
  unfold f_X3_lookAtMove at h
  refine lv_aload_n hx hb dX3_lookAtMove_0 rfl (lv_at hl 0 rfl) ?_
  obtain ⟨r1, q, h⟩ := ho_bd h
  refine hw_gr X hP LX3 fX3_25 rfl q dX3_lookAtMove_1 ?_
  obtain ⟨r2, q, h⟩ := ho_bd h
  refine hw_gr X hP LX0 fX3_142 rfl q dX3_lookAtMove_4 ?_
  refine lv_iload_n hx hb dX3_lookAtMove_7 rfl (lv_at hl 1 rfl) ?_
  obtain ⟨v3, q, h⟩ := ho_bd h
  refine hw_li X hP q dX3_lookAtMove_8 ?_
  refine lv_aload_n hx hb dX3_lookAtMove_9 rfl (lv_at hl 0 rfl) ?_
  obtain ⟨r4, q, h⟩ := ho_bd h
  refine hw_gr X hP LX3 fX3_21 rfl q dX3_lookAtMove_10 ?_
  obtain ⟨r5, q, h⟩ := ho_bd h
  refine hw_gr X hP LX0 fX3_142 rfl q dX3_lookAtMove_13 ?_
  refine lv_iload_n hx hb dX3_lookAtMove_16 rfl (lv_at hl 1 rfl) ?_
  obtain ⟨v6, q, h⟩ := ho_bd h
  refine hw_li X hP q dX3_lookAtMove_17 ?_
  refine lv_isub hx hb dX3_lookAtMove_18 ?_
  obtain ⟨v7, q, h⟩ := ho_bd h
  refine hw_id q ?_
  refine lv_istore_n (lv' := [(2, .int v7), (0, .ref a0), (1, .int x1)]) hx hb dX3_lookAtMove_19 rfl hl (by decide) rfl (fun ls hl => ?_)
  refine lv_aload_n hx hb dX3_lookAtMove_20 rfl (lv_at hl 1 rfl) ?_
  obtain ⟨r8, q, h⟩ := ho_bd h
  refine hw_gr X hP LX3 fX3_25 rfl q dX3_lookAtMove_21 ?_
  obtain ⟨r9, q, h⟩ := ho_bd h
  refine hw_gr X hP LX0 fX3_104 rfl q dX3_lookAtMove_24 ?_
  refine lv_iload_n hx hb dX3_lookAtMove_27 rfl (lv_at hl 2 rfl) ?_
  obtain ⟨v10, q, h⟩ := ho_bd h
  refine hw_li X hP q dX3_lookAtMove_28 ?_
  refine lv_aload_n hx hb dX3_lookAtMove_29 rfl (lv_at hl 1 rfl) ?_
  obtain ⟨r11, q, h⟩ := ho_bd h
  refine hw_gr X hP LX3 fX3_21 rfl q dX3_lookAtMove_30 ?_
  obtain ⟨r12, q, h⟩ := ho_bd h
  refine hw_gr X hP LX0 fX3_104 rfl q dX3_lookAtMove_33 ?_
  refine lv_iload_n hx hb dX3_lookAtMove_36 rfl (lv_at hl 2 rfl) ?_
  obtain ⟨v13, q, h⟩ := ho_bd h
  refine hw_li X hP q dX3_lookAtMove_37 ?_
  refine lv_isub hx hb dX3_lookAtMove_38 ?_
  obtain ⟨v14, q, h⟩ := ho_bd h
  refine hw_id q ?_
  refine lv_istore_n (lv' := [(3, .int v14), (2, .int v7), (0, .ref a0), (1, .int x1)]) hx hb dX3_lookAtMove_39 rfl hl (by decide) rfl (fun ls hl => ?_)
  refine lv_aload_n hx hb dX3_lookAtMove_40 rfl (lv_at hl 2 rfl) ?_
  refine lv_bipush (v := 7) hx hb dX3_lookAtMove_41 (by decide) ?_
  refine lv_iload_n hx hb dX3_lookAtMove_43 rfl (lv_at hl 3 rfl) ?_
  refine lv_iload_n hx hb dX3_lookAtMove_44 rfl (lv_at hl 1 rfl) ?_
  refine lv_if_ge (tgt := 58) hx hb dX3_lookAtMove_45 (by decide) (fun hc => ?_) (fun hc => ?_)
  · replace h := ho_ip hc h
    refine lv_iload_n hx hb dX3_lookAtMove_58 rfl (lv_at hl 1 rfl) ?_
    refine lv_iload_n hx hb dX3_lookAtMove_59 rfl (lv_at hl 0 rfl) ?_
    obtain ⟨⟨v15, z⟩, q, h⟩ := ho_bd h
    refine hw_ci hS (hp_runS (As := [.int v7, .int v14]) (rest := [.int x1, .int 7, .ref a0]) X hP hS hl.1 kX3_145 m2_222 (c_X3_isLeap l G fu v7 v14 _ _ _ q) rfl (Nat.le_of_ble_eq_true rfl) ⟨⟨Nat.le_of_ble_eq_true rfl, Nat.le_of_ble_eq_true rfl⟩, Nat.le_of_ble_eq_true rfl, Nat.le_of_ble_eq_true rfl⟩ dX3_lookAtMove_60) (fun H locs hP hS => ?_)
    exact B63 v7 v14 v15 x1 7 a0 z _ _ _ h hP hS (lv_sub hl [2, 3, 1, 0] rfl)
  · replace h := ho_in hc h
    refine lv_iload_n hx hb dX3_lookAtMove_48 rfl (lv_at hl 1 rfl) ?_
    refine lv_ineg hx hb dX3_lookAtMove_49 ?_
    refine lv_iload_n hx hb dX3_lookAtMove_50 rfl (lv_at hl 0 rfl) ?_
    refine lv_ineg hx hb dX3_lookAtMove_51 ?_
    obtain ⟨⟨v24, z⟩, q, h⟩ := ho_bd h
    refine hw_ci hS (hp_runS (As := [.int (-v7), .int (-v14)]) (rest := [.int x1, .int 7, .ref a0]) X hP hS hl.1 kX3_145 m2_222 (c_X3_isLeap l G fu (-v7) (-v14) _ _ _ q) rfl (Nat.le_of_ble_eq_true rfl) ⟨⟨Nat.le_of_ble_eq_true rfl, Nat.le_of_ble_eq_true rfl⟩, Nat.le_of_ble_eq_true rfl, Nat.le_of_ble_eq_true rfl⟩ dX3_lookAtMove_52) (fun H locs hP hS => ?_)
    refine lv_goto (tgt := 63) hx hb dX3_lookAtMove_55 (by decide) ?_
    exact B63 v7 v14 v24 x1 7 a0 z _ _ _ h hP hS (lv_sub hl [2, 3, 1, 0] rfl)
def f_J6_compare_B19 (fu : Nat) (x0 : Int32) (x1 : Int32) (s0 : Int32) (z : hp_S) : Option (Int32 × hp_S) :=
  some (s0, z)
def f_J6_compare (fu : Nat) (x0 : Int32) (x1 : Int32) (z : hp_S) : Option (Int32 × hp_S) :=
  if x1 ≤ x0 then (
    if x0 = x1 then (
      f_J6_compare_B19 fu x0 x1 0 z
    ) else (
      f_J6_compare_B19 fu x0 x1 1 z
    )
  ) else (
    f_J6_compare_B19 fu x0 x1 (-1) z
  )
set_option maxHeartbeats 4000000 in
set_option maxRecDepth 100000 in
theorem c_J6_compare (l : Launch) (G : hp_G) (fu : Nat) (x0 : Int32) (x1 : Int32) (z : hp_S) (rq : Int32) (zq : hp_S) (h : f_J6_compare fu x0 x1 z = some (rq, zq)) : hp_M l G yJ6_compare cJ6_compare 2 (some .int) 0 0 0 0 [.int x0, .int x1] z (hp_Qi G rq zq) := by
  refine hp_M.of (by decide) (Nat.le_of_ble_eq_true rfl) ?_
  intro p e s m below meth c X hr hlocks hnm hP hS ls hl
  have X : hp_C G cJ6_compare RJ6 2 p s m c := X
  have hl : lv_has ls 2 [(0, .int x0), (1, .int x1)] := hl
  have hx := X.1
  have hb := X.2.1
  have B19 : ∀ (s0 : Int32) (z : hp_S) (H : Heap) (locs : List Loc) (ls : Array Slot), f_J6_compare_B19 fu x0 x1 s0 z = some (rq, zq) → hp_P G z H → va_S (hp_A G) s.heap H locs → lv_has ls 2 [(0, .int x0), (1, .int x1)] → W p l e (hp_rm 0 0 0 0) s m [.int x0, .int x1].toArray below meth c H locs 0 0 (MQ below (hp_Qi G rq zq) [.int x0, .int x1].toArray s 0 0 (hp_A G)) (F0 m 19 ls [.int s0]) := by
    intro s0 z H locs ls h hP hS hl
    unfold f_J6_compare_B19 at h
    exact hw_iret X hP hS hr hlocks h dJ6_compare_19
  unfold f_J6_compare at h
  refine lv_iload_n hx hb dJ6_compare_0 rfl (lv_at hl 0 rfl) ?_
  refine lv_iload_n hx hb dJ6_compare_1 rfl (lv_at hl 1 rfl) ?_
  refine lv_icmp_ge (tgt := 9) hx hb dJ6_compare_2 (by decide) (fun hc => ?_) (fun hc => ?_)
  · replace h := ho_ip hc h
    refine lv_iload_n hx hb dJ6_compare_9 rfl (lv_at hl 0 rfl) ?_
    refine lv_iload_n hx hb dJ6_compare_10 rfl (lv_at hl 1 rfl) ?_
    refine lv_icmp_ne (tgt := 18) hx hb dJ6_compare_11 (by decide) (fun hc => ?_) (fun hc => ?_)
    · replace h := ho_in hc h
      refine lv_iconst (v := 1) hx hb dJ6_compare_18 (by decide) ?_
      exact B19 1 z _ _ _ h hP hS (lv_sub hl [0, 1] rfl)
    · replace h := ho_ip hc h
      refine lv_iconst (v := 0) hx hb dJ6_compare_14 (by decide) ?_
      refine lv_goto (tgt := 19) hx hb dJ6_compare_15 (by decide) ?_
      exact B19 0 z _ _ _ h hP hS (lv_sub hl [0, 1] rfl)
  · replace h := ho_in hc h
    refine lv_iconst (v := (-1)) hx hb dJ6_compare_5 (by decide) ?_
    refine lv_goto (tgt := 19) hx hb dJ6_compare_6 (by decide) ?_
    exact B19 (-1) z _ _ _ h hP hS (lv_sub hl [0, 1] rfl)
def f_X3_way (fu : Nat) (a0 : Nat) (x1 : Int32) (z : hp_S) : Option (Int32 × hp_S) :=
  (ho_gr 3 a0 2 z).bind fun r1 =>
  (ho_gr 0 r1 3 z).bind fun r2 =>
  (ho_li 1 r2 x1 z).bind fun v3 =>
  (ho_gr 3 a0 1 z).bind fun r4 =>
  (ho_gr 0 r4 3 z).bind fun r5 =>
  (ho_li 1 r5 x1 z).bind fun v6 =>
  (f_J6_compare fu v3 v6 z).bind fun ⟨v7, z⟩ =>
  some (v7, z)
set_option maxHeartbeats 4000000 in
set_option maxRecDepth 100000 in
theorem c_X3_way (l : Launch) (G : hp_G) (fu : Nat) (a0 : Nat) (x1 : Int32) (z : hp_S) (rq : Int32) (zq : hp_S) (h : f_X3_way fu a0 x1 z = some (rq, zq)) : hp_M l G yX3_way cX3_way 2 (some .int) 1 21 0 0 [.ref a0, .int x1] z (hp_Qi G rq zq) := by
  refine hp_M.of (by decide) (Nat.le_of_ble_eq_true rfl) ?_
  intro p e s m below meth c X hr hlocks hnm hP hS ls hl
  have X : hp_C G cX3_way RX3 2 p s m c := X
  have hl : lv_has ls 2 [(0, .ref a0), (1, .int x1)] := hl
  have hx := X.1
  have hb := X.2.1
  unfold f_X3_way at h
  refine lv_aload_n hx hb dX3_way_0 rfl (lv_at hl 0 rfl) ?_
  obtain ⟨r1, q, h⟩ := ho_bd h
  refine hw_gr X hP LX3 fX3_25 rfl q dX3_way_1 ?_
  obtain ⟨r2, q, h⟩ := ho_bd h
  refine hw_gr X hP LX0 fX3_104 rfl q dX3_way_4 ?_
  refine lv_iload_n hx hb dX3_way_7 rfl (lv_at hl 1 rfl) ?_
  obtain ⟨v3, q, h⟩ := ho_bd h
  refine hw_li X hP q dX3_way_8 ?_
  refine lv_aload_n hx hb dX3_way_9 rfl (lv_at hl 0 rfl) ?_
  obtain ⟨r4, q, h⟩ := ho_bd h
  refine hw_gr X hP LX3 fX3_21 rfl q dX3_way_10 ?_
  obtain ⟨r5, q, h⟩ := ho_bd h
  refine hw_gr X hP LX0 fX3_104 rfl q dX3_way_13 ?_
  refine lv_iload_n hx hb dX3_way_16 rfl (lv_at hl 1 rfl) ?_
  obtain ⟨v6, q, h⟩ := ho_bd h
  refine hw_li X hP q dX3_way_17 ?_
  obtain ⟨⟨v7, z⟩, q, h⟩ := ho_bd h
  refine hw_ci hS (hp_runS (As := [.int v3, .int v6]) (rest := []) X hP hS hl.1 kX3_176 m3_1 (c_J6_compare l G fu v3 v6 _ _ _ q) rfl (Nat.le_of_ble_eq_true rfl) ⟨⟨Nat.le_of_ble_eq_true rfl, Nat.le_of_ble_eq_true rfl⟩, Nat.le_of_ble_eq_true rfl, Nat.le_of_ble_eq_true rfl⟩ dX3_way_18) (fun H locs hP hS => ?_)
  exact hw_iret X hP hS hr hlocks h dX3_way_21
def f_X0_quality_B50 (fu : Nat) (a0 : Nat) (x1 : Int32) (x2 : Int32) (w4 : Int32) (z : hp_S) : Option (Int32 × hp_S) :=
  (ho_tl h_t6 w4).bind fun v5 =>
  some (v5, z)
def f_X0_quality_B36 (fu : Nat) (a0 : Nat) (x1 : Int32) (x2 : Int32) (w3 : Int32) (w4 : Int32) (z : hp_S) : Option (Int32 × hp_S) :=
  if w3 = 4 then (
    if w4 = 7 then (
      some (2, z)
    ) else (
      f_X0_quality_B50 fu a0 x1 x2 w4 z
    )
  ) else (
    f_X0_quality_B50 fu a0 x1 x2 w4 z
  )
def f_X0_quality (fu : Nat) (a0 : Nat) (x1 : Int32) (x2 : Int32) (z : hp_S) : Option (Int32 × hp_S) :=
  (ho_is 0 a0 z).bind fun _ =>
  (f_X0_stepsUp fu a0 x1 x2 z).bind fun ⟨v1, z⟩ =>
  (f_J9_floorMod fu v1 7 z).bind fun ⟨v2, z⟩ =>
  (ho_is 0 a0 z).bind fun _ =>
  (f_X0_heightUp fu a0 x1 x2 z).bind fun ⟨v3, z⟩ =>
  (f_J9_floorMod fu v3 12 z).bind fun ⟨v4, z⟩ =>
  if v2 = 0 then (
    if v4 = 0 then (
      some (1, z)
    ) else (
      f_X0_quality_B36 fu a0 x1 x2 v2 v4 z
    )
  ) else (
    f_X0_quality_B36 fu a0 x1 x2 v2 v4 z
  )
set_option maxHeartbeats 4000000 in
set_option maxRecDepth 100000 in
theorem c_X0_quality (l : Launch) (G : hp_G) (fu : Nat) (a0 : Nat) (x1 : Int32) (x2 : Int32) (z : hp_S) (rq : Int32) (zq : hp_S) (h : f_X0_quality fu a0 x1 x2 z = some (rq, zq)) : hp_M l G yX0_quality cX0_quality 5 (some .int) 1 22 0 0 [.ref a0, .int x1, .int x2] z (hp_Qi G rq zq) := by
  refine hp_M.of (by decide) (Nat.le_of_ble_eq_true rfl) ?_
  intro p e s m below meth c X hr hlocks hnm hP hS ls hl
  have X : hp_C G cX0_quality RX0 5 p s m c := X
  have hl : lv_has ls 5 [(0, .ref a0), (1, .int x1), (2, .int x2)] := hl
  have hx := X.1
  have hb := X.2.1
  have B50 : ∀ (w4 : Int32) (z : hp_S) (H : Heap) (locs : List Loc) (ls : Array Slot), f_X0_quality_B50 fu a0 x1 x2 w4 z = some (rq, zq) → hp_P G z H → va_S (hp_A G) s.heap H locs → lv_has ls 5 [(0, .ref a0), (1, .int x1), (2, .int x2), (4, .int w4)] → W p l e (hp_rm 1 22 0 0) s m [.ref a0, .int x1, .int x2].toArray below meth c H locs 0 0 (MQ below (hp_Qi G rq zq) [.ref a0, .int x1, .int x2].toArray s 0 0 (hp_A G)) (F0 m 50 ls []) := by
    intro w4 z H locs ls h hP hS hl
    unfold f_X0_quality_B50 at h
    refine hw_gsN (q := h_q6) X hS h_s6 m3_10 dX0_quality_50 ?_
    refine lv_iload hx hb dX0_quality_53 (lv_at hl 3 rfl) ?_
    obtain ⟨v5, q, h⟩ := ho_bd h
    refine hw_tl (q := h_q6) X hS h_s6 q dX0_quality_55 ?_
    exact hw_iret X hP hS hr hlocks h dX0_quality_56
  have B36 : ∀ (w3 : Int32) (w4 : Int32) (z : hp_S) (H : Heap) (locs : List Loc) (ls : Array Slot), f_X0_quality_B36 fu a0 x1 x2 w3 w4 z = some (rq, zq) → hp_P G z H → va_S (hp_A G) s.heap H locs → lv_has ls 5 [(0, .ref a0), (1, .int x1), (2, .int x2), (3, .int w3), (4, .int w4)] → W p l e (hp_rm 1 22 0 0) s m [.ref a0, .int x1, .int x2].toArray below meth c H locs 0 0 (MQ below (hp_Qi G rq zq) [.ref a0, .int x1, .int x2].toArray s 0 0 (hp_A G)) (F0 m 36 ls []) := by
    intro w3 w4 z H locs ls h hP hS hl
    unfold f_X0_quality_B36 at h
    refine lv_iload_n hx hb dX0_quality_36 rfl (lv_at hl 3 rfl) ?_
    refine lv_iconst (v := 4) hx hb dX0_quality_37 (by decide) ?_
    refine lv_icmp_ne (tgt := 50) hx hb dX0_quality_38 (by decide) (fun hc => ?_) (fun hc => ?_)
    · replace h := ho_in hc h
      exact B50 w4 z _ _ _ h hP hS (lv_sub hl [0, 1, 2, 4] rfl)
    · replace h := ho_ip hc h
      refine lv_iload hx hb dX0_quality_41 (lv_at hl 4 rfl) ?_
      refine lv_bipush (v := 7) hx hb dX0_quality_43 (by decide) ?_
      refine lv_icmp_ne (tgt := 50) hx hb dX0_quality_45 (by decide) (fun hc => ?_) (fun hc => ?_)
      · replace h := ho_in hc h
        exact B50 w4 z _ _ _ h hP hS (lv_sub hl [0, 1, 2, 4] rfl)
      · replace h := ho_ip hc h
        refine lv_iconst (v := 2) hx hb dX0_quality_48 (by decide) ?_
        exact hw_iret X hP hS hr hlocks h dX0_quality_49
  unfold f_X0_quality at h
  refine lv_aload_n hx hb dX0_quality_0 rfl (lv_at hl 0 rfl) ?_
  refine lv_iload_n hx hb dX0_quality_1 rfl (lv_at hl 1 rfl) ?_
  refine lv_iload_n hx hb dX0_quality_2 rfl (lv_at hl 2 rfl) ?_
  obtain ⟨_, hs, h⟩ := ho_bd h
  obtain ⟨⟨v1, z⟩, q, h⟩ := ho_bd h
  refine hw_ci hS (hp_runV (As := [.int x1, .int x2]) (rest := []) X hP hS hl.1 LX0 (ho_is_s hs) kX0_43 ⟨m2_229, m2_230⟩ (c_X0_stepsUp l G fu a0 x1 x2 _ _ _ q) rfl (Nat.le_of_ble_eq_true rfl) ⟨⟨Nat.le_of_ble_eq_true rfl, Nat.le_of_ble_eq_true rfl⟩, Nat.le_of_ble_eq_true rfl, Nat.le_of_ble_eq_true rfl⟩ dX0_quality_3) (fun H locs hP hS => ?_)
  refine lv_bipush (v := 7) hx hb dX0_quality_6 (by decide) ?_
  obtain ⟨⟨v2, z⟩, q, h⟩ := ho_bd h
  refine hw_ci hS (hp_runS (As := [.int v1, .int 7]) (rest := []) X hP hS hl.1 kX0_47 m2_133 (c_J9_floorMod l G fu v1 7 _ _ _ q) rfl (Nat.le_of_ble_eq_true rfl) ⟨⟨Nat.le_of_ble_eq_true rfl, Nat.le_of_ble_eq_true rfl⟩, Nat.le_of_ble_eq_true rfl, Nat.le_of_ble_eq_true rfl⟩ dX0_quality_8) (fun H locs hP hS => ?_)
  refine lv_istore_n (lv' := [(3, .int v2), (0, .ref a0), (1, .int x1), (2, .int x2)]) hx hb dX0_quality_11 rfl hl (by decide) rfl (fun ls hl => ?_)
  refine lv_aload_n hx hb dX0_quality_12 rfl (lv_at hl 1 rfl) ?_
  refine lv_iload_n hx hb dX0_quality_13 rfl (lv_at hl 2 rfl) ?_
  refine lv_iload_n hx hb dX0_quality_14 rfl (lv_at hl 3 rfl) ?_
  obtain ⟨_, hs, h⟩ := ho_bd h
  obtain ⟨⟨v3, z⟩, q, h⟩ := ho_bd h
  refine hw_ci hS (hp_runV (As := [.int x1, .int x2]) (rest := []) X hP hS hl.1 LX0 (ho_is_s hs) kX0_52 ⟨m2_198, m2_199⟩ (c_X0_heightUp l G fu a0 x1 x2 _ _ _ q) rfl (Nat.le_of_ble_eq_true rfl) ⟨⟨Nat.le_of_ble_eq_true rfl, Nat.le_of_ble_eq_true rfl⟩, Nat.le_of_ble_eq_true rfl, Nat.le_of_ble_eq_true rfl⟩ dX0_quality_15) (fun H locs hP hS => ?_)
  refine lv_bipush (v := 12) hx hb dX0_quality_18 (by decide) ?_
  obtain ⟨⟨v4, z⟩, q, h⟩ := ho_bd h
  refine hw_ci hS (hp_runS (As := [.int v3, .int 12]) (rest := []) X hP hS hl.1 kX0_47 m2_133 (c_J9_floorMod l G fu v3 12 _ _ _ q) rfl (Nat.le_of_ble_eq_true rfl) ⟨⟨Nat.le_of_ble_eq_true rfl, Nat.le_of_ble_eq_true rfl⟩, Nat.le_of_ble_eq_true rfl, Nat.le_of_ble_eq_true rfl⟩ dX0_quality_20) (fun H locs hP hS => ?_)
  refine lv_istore (lv' := [(4, .int v4), (3, .int v2), (0, .ref a0), (1, .int x1), (2, .int x2)]) hx hb dX0_quality_23 hl (by decide) rfl (fun ls hl => ?_)
  refine lv_iload_n hx hb dX0_quality_25 rfl (lv_at hl 1 rfl) ?_
  refine lv_if_ne (tgt := 36) hx hb dX0_quality_26 (by decide) (fun hc => ?_) (fun hc => ?_)
  · replace h := ho_in hc h
    exact B36 v2 v4 z _ _ _ h hP hS (lv_sub hl [2, 3, 4, 1, 0] rfl)
  · replace h := ho_ip hc h
    refine lv_iload hx hb dX0_quality_29 (lv_at hl 0 rfl) ?_
    refine lv_if_ne (tgt := 36) hx hb dX0_quality_31 (by decide) (fun hc => ?_) (fun hc => ?_)
    · replace h := ho_in hc h
      exact B36 v2 v4 z _ _ _ h hP hS (lv_sub hl [2, 3, 4, 1, 0] rfl)
    · replace h := ho_ip hc h
      refine lv_iconst (v := 1) hx hb dX0_quality_34 (by decide) ?_
      exact hw_iret X hP hS hr hlocks h dX0_quality_35
def f_X3_lookAtTwo_B309 (fu : Nat) (a0 : Nat) (x1 : Int32) (x2 : Int32) (z : hp_S) : Option hp_S :=
  some z
def f_X3_lookAtTwo_B306 (fu : Nat) (a0 : Nat) (x1 : Int32) (x2 : Int32) (s0 : Int32) (s1 : Int32) (s2 : Int32) (s3 : Int32) (s4 : Nat) (z : hp_S) : Option hp_S :=
  (ho_is 3 s4 z).bind fun _ =>
  (f_X3_between fu s4 s3 s2 s1 s0 z).bind fun z =>
  f_X3_lookAtTwo_B309 fu a0 x1 x2  z
def f_X3_lookAtTwo_B301 (fu : Nat) (a0 : Nat) (x1 : Int32) (x2 : Int32) (s0 : Int32) (s1 : Int32) (s2 : Int32) (s3 : Nat) (z : hp_S) : Option hp_S :=
  f_X3_lookAtTwo_B306 fu a0 x1 x2 1 s0 s1 s2 s3 z
def f_X3_lookAtTwo_B248 (fu : Nat) (a0 : Nat) (x1 : Int32) (x2 : Int32) (z : hp_S) : Option hp_S :=
  if x2 = (x1 + 1) then (
    (ho_gr 3 a0 2 z).bind fun r9 =>
    (ho_gr 0 r9 3 z).bind fun r10 =>
    (ho_li 1 r10 x1 z).bind fun v11 =>
    (ho_gr 3 a0 1 z).bind fun r12 =>
    (ho_gr 0 r12 3 z).bind fun r13 =>
    (ho_li 1 r13 x2 z).bind fun v14 =>
    if v14 < v11 then (
      f_X3_lookAtTwo_B301 fu a0 x1 x2 x2 x1 4 a0 z
    ) else (
      (ho_gr 3 a0 2 z).bind fun r15 =>
      (ho_gr 0 r15 3 z).bind fun r16 =>
      (ho_li 1 r16 x2 z).bind fun v17 =>
      (ho_gr 3 a0 1 z).bind fun r18 =>
      (ho_gr 0 r18 3 z).bind fun r19 =>
      (ho_li 1 r19 x1 z).bind fun v20 =>
      if v20 ≤ v17 then (
        f_X3_lookAtTwo_B306 fu a0 x1 x2 0 x2 x1 4 a0 z
      ) else (
        f_X3_lookAtTwo_B301 fu a0 x1 x2 x2 x1 4 a0 z
      )
    )
  ) else (
    f_X3_lookAtTwo_B309 fu a0 x1 x2  z
  )
def f_X3_lookAtTwo_B245 (fu : Nat) (a0 : Nat) (x1 : Int32) (x2 : Int32) (s0 : Int32) (s1 : Int32) (s2 : Int32) (s3 : Int32) (s4 : Nat) (z : hp_S) : Option hp_S :=
  (ho_is 3 s4 z).bind fun _ =>
  (f_X3_between fu s4 s3 s2 s1 s0 z).bind fun z =>
  f_X3_lookAtTwo_B248 fu a0 x1 x2  z
def f_X3_lookAtTwo_B244 (fu : Nat) (a0 : Nat) (x1 : Int32) (x2 : Int32) (s0 : Int32) (s1 : Int32) (s2 : Int32) (s3 : Nat) (z : hp_S) : Option hp_S :=
  f_X3_lookAtTwo_B245 fu a0 x1 x2 0 s0 s1 s2 s3 z
def f_X3_lookAtTwo_B213 (fu : Nat) (a0 : Nat) (x1 : Int32) (x2 : Int32) (w3 : Int32) (w5 : Int32) (w6 : Int32) (w7 : Int32) (s0 : Int32) (z : hp_S) : Option hp_S :=
  if w3 = 0 then (
    f_X3_lookAtTwo_B244 fu a0 x1 x2 x2 x1 2 a0 z
  ) else (
    if w7 = 0 then (
      f_X3_lookAtTwo_B244 fu a0 x1 x2 x2 x1 2 a0 z
    ) else (
      if w5 = w6 then (
        f_X3_lookAtTwo_B244 fu a0 x1 x2 x2 x1 2 a0 z
      ) else (
        if s0 = 0 then (
          f_X3_lookAtTwo_B244 fu a0 x1 x2 x2 x1 2 a0 z
        ) else (
          f_X3_lookAtTwo_B245 fu a0 x1 x2 1 x2 x1 2 a0 z
        )
      )
    )
  )
def f_X3_lookAtTwo_B165 (fu : Nat) (a0 : Nat) (x1 : Int32) (x2 : Int32) (w3 : Int32) (w5 : Int32) (w6 : Int32) (w7 : Int32) (s0 : Int32) (s1 : Int32) (s2 : Int32) (s3 : Int32) (s4 : Nat) (z : hp_S) : Option hp_S :=
  (ho_is 3 s4 z).bind fun _ =>
  (f_X3_between fu s4 s3 s2 s1 s0 z).bind fun z =>
  if x1 = 0 then (
    (ho_gi 3 a0 4 z).bind fun v21 =>
    if x2 = (v21 - 1) then (
      (ho_gr 3 a0 2 z).bind fun r22 =>
      (ho_gr 0 r22 3 z).bind fun r23 =>
      (ho_li 1 r23 x2 z).bind fun v24 =>
      (ho_gr 3 a0 1 z).bind fun r25 =>
      (ho_gr 0 r25 3 z).bind fun r26 =>
      (ho_li 1 r26 x2 z).bind fun v27 =>
      (ho_id (if 0 ≤ (v24 - v27) then (v24 - v27) else 0 - (v24 - v27))).bind fun v28 =>
      if v28 ≤ 2 then (
        f_X3_lookAtTwo_B213 fu a0 x1 x2 w3 w5 w6 w7 0 z
      ) else (
        f_X3_lookAtTwo_B213 fu a0 x1 x2 w3 w5 w6 w7 1 z
      )
    ) else (
      f_X3_lookAtTwo_B248 fu a0 x1 x2  z
    )
  ) else (
    f_X3_lookAtTwo_B248 fu a0 x1 x2  z
  )
def f_X3_lookAtTwo_B164 (fu : Nat) (a0 : Nat) (x1 : Int32) (x2 : Int32) (w3 : Int32) (w5 : Int32) (w6 : Int32) (w7 : Int32) (s0 : Int32) (s1 : Int32) (s2 : Int32) (s3 : Nat) (z : hp_S) : Option hp_S :=
  f_X3_lookAtTwo_B165 fu a0 x1 x2 w3 w5 w6 w7 0 s0 s1 s2 s3 z
def f_X3_lookAtTwo_B136 (fu : Nat) (a0 : Nat) (x1 : Int32) (x2 : Int32) (w3 : Int32) (w5 : Int32) (w6 : Int32) (w7 : Int32) (s0 : Int32) (s1 : Int32) (s2 : Int32) (s3 : Int32) (s4 : Nat) (z : hp_S) : Option hp_S :=
  (ho_is 3 s4 z).bind fun _ =>
  (f_X3_between fu s4 s3 s2 s1 s0 z).bind fun z =>
  if w3 = 0 then (
    f_X3_lookAtTwo_B164 fu a0 x1 x2 w3 w5 w6 w7 x2 x1 12 a0 z
  ) else (
    if w5 = 3 then (
      f_X3_lookAtTwo_B164 fu a0 x1 x2 w3 w5 w6 w7 x2 x1 12 a0 z
    ) else (
      if w6 = 3 then (
        f_X3_lookAtTwo_B165 fu a0 x1 x2 w3 w5 w6 w7 1 x2 x1 12 a0 z
      ) else (
        f_X3_lookAtTwo_B164 fu a0 x1 x2 w3 w5 w6 w7 x2 x1 12 a0 z
      )
    )
  )
def f_X3_lookAtTwo_B135 (fu : Nat) (a0 : Nat) (x1 : Int32) (x2 : Int32) (w3 : Int32) (w5 : Int32) (w6 : Int32) (w7 : Int32) (s0 : Int32) (s1 : Int32) (s2 : Int32) (s3 : Nat) (z : hp_S) : Option hp_S :=
  f_X3_lookAtTwo_B136 fu a0 x1 x2 w3 w5 w6 w7 0 s0 s1 s2 s3 z
def f_X3_lookAtTwo_B107 (fu : Nat) (a0 : Nat) (x1 : Int32) (x2 : Int32) (w3 : Int32) (w4 : Int32) (w5 : Int32) (w6 : Int32) (w7 : Int32) (s0 : Int32) (s1 : Int32) (s2 : Int32) (s3 : Int32) (s4 : Nat) (z : hp_S) : Option hp_S :=
  (ho_is 3 s4 z).bind fun _ =>
  (f_X3_between fu s4 s3 s2 s1 s0 z).bind fun z =>
  if w4 = 0 then (
    f_X3_lookAtTwo_B135 fu a0 x1 x2 w3 w5 w6 w7 x2 x1 1 a0 z
  ) else (
    if w7 = 0 then (
      f_X3_lookAtTwo_B135 fu a0 x1 x2 w3 w5 w6 w7 x2 x1 1 a0 z
    ) else (
      if w5 = w6 then (
        f_X3_lookAtTwo_B136 fu a0 x1 x2 w3 w5 w6 w7 1 x2 x1 1 a0 z
      ) else (
        f_X3_lookAtTwo_B135 fu a0 x1 x2 w3 w5 w6 w7 x2 x1 1 a0 z
      )
    )
  )
def f_X3_lookAtTwo_B106 (fu : Nat) (a0 : Nat) (x1 : Int32) (x2 : Int32) (w3 : Int32) (w4 : Int32) (w5 : Int32) (w6 : Int32) (w7 : Int32) (s0 : Int32) (s1 : Int32) (s2 : Int32) (s3 : Nat) (z : hp_S) : Option hp_S :=
  f_X3_lookAtTwo_B107 fu a0 x1 x2 w3 w4 w5 w6 w7 0 s0 s1 s2 s3 z
def f_X3_lookAtTwo_B80 (fu : Nat) (a0 : Nat) (x1 : Int32) (x2 : Int32) (w3 : Int32) (w4 : Int32) (w5 : Int32) (w6 : Int32) (s0 : Int32) (z : hp_S) : Option hp_S :=
  if w3 = 0 then (
    f_X3_lookAtTwo_B106 fu a0 x1 x2 w3 w4 w5 w6 s0 x2 x1 0 a0 z
  ) else (
    if s0 = 0 then (
      f_X3_lookAtTwo_B106 fu a0 x1 x2 w3 w4 w5 w6 s0 x2 x1 0 a0 z
    ) else (
      if w5 = w6 then (
        f_X3_lookAtTwo_B107 fu a0 x1 x2 w3 w4 w5 w6 s0 1 x2 x1 0 a0 z
      ) else (
        f_X3_lookAtTwo_B106 fu a0 x1 x2 w3 w4 w5 w6 s0 x2 x1 0 a0 z
      )
    )
  )
def f_X3_lookAtTwo_B75 (fu : Nat) (a0 : Nat) (x1 : Int32) (x2 : Int32) (w3 : Int32) (w4 : Int32) (w5 : Int32) (w6 : Int32) (z : hp_S) : Option hp_S :=
  f_X3_lookAtTwo_B80 fu a0 x1 x2 w3 w4 w5 w6 1 z
def f_X3_lookAtTwo_B39 (fu : Nat) (a0 : Nat) (x1 : Int32) (x2 : Int32) (w3 : Int32) (s0 : Int32) (z : hp_S) : Option hp_S :=
  (ho_gr 3 a0 1 z).bind fun r5 =>
  (ho_is 0 r5 z).bind fun _ =>
  (f_X0_quality fu r5 x1 x2 z).bind fun ⟨v6, z⟩ =>
  (ho_gr 3 a0 2 z).bind fun r7 =>
  (ho_is 0 r7 z).bind fun _ =>
  (f_X0_quality fu r7 x1 x2 z).bind fun ⟨v8, z⟩ =>
  if v8 = 1 then (
    f_X3_lookAtTwo_B75 fu a0 x1 x2 w3 s0 v6 v8 z
  ) else (
    if v8 = 2 then (
      f_X3_lookAtTwo_B75 fu a0 x1 x2 w3 s0 v6 v8 z
    ) else (
      f_X3_lookAtTwo_B80 fu a0 x1 x2 w3 s0 v6 v8 0 z
    )
  )
def f_X3_lookAtTwo_B19 (fu : Nat) (a0 : Nat) (x1 : Int32) (x2 : Int32) (s0 : Int32) (z : hp_S) : Option hp_S :=
  (ho_is 3 a0 z).bind fun _ =>
  (f_X3_way fu a0 x1 z).bind fun ⟨v3, z⟩ =>
  (ho_is 3 a0 z).bind fun _ =>
  (f_X3_way fu a0 x2 z).bind fun ⟨v4, z⟩ =>
  if 0 ≤ (v3 * v4) then (
    f_X3_lookAtTwo_B39 fu a0 x1 x2 s0 0 z
  ) else (
    f_X3_lookAtTwo_B39 fu a0 x1 x2 s0 1 z
  )
def f_X3_lookAtTwo (fu : Nat) (a0 : Nat) (x1 : Int32) (x2 : Int32) (z : hp_S) : Option hp_S :=
  (ho_is 3 a0 z).bind fun _ =>
  (f_X3_way fu a0 x1 z).bind fun ⟨v1, z⟩ =>
  (ho_is 3 a0 z).bind fun _ =>
  (f_X3_way fu a0 x2 z).bind fun ⟨v2, z⟩ =>
  if (v1 * v2) ≤ 0 then (
    f_X3_lookAtTwo_B19 fu a0 x1 x2 0 z
  ) else (
    f_X3_lookAtTwo_B19 fu a0 x1 x2 1 z
  )
set_option maxHeartbeats 4000000 in
set_option maxRecDepth 100000 in
theorem c_X3_lookAtTwo (l : Launch) (G : hp_G) (fu : Nat) (a0 : Nat) (x1 : Int32) (x2 : Int32) (z zq : hp_S) (h : f_X3_lookAtTwo fu a0 x1 x2 z = some zq) : hp_M l G yX3_lookAtTwo cX3_lookAtTwo 9 none 2 49 0 0 [.ref a0, .int x1, .int x2] z (hp_Qv G zq) := by
  refine hp_M.of (by decide) (Nat.le_of_ble_eq_true rfl) ?_
  intro p e s m below meth c X hr hlocks hnm hP hS ls hl
  have X : hp_C G cX3_lookAtTwo RX3 9 p s m c := X
  have hl : lv_has ls 9 [(0, .ref a0), (1, .int x1), (2, .int x2)] := hl
  have hx := X.1
  have hb := X.2.1
  have B309 : ∀ (z : hp_S) (H : Heap) (locs : List Loc) (ls : Array Slot), f_X3_lookAtTwo_B309 fu a0 x1 x2 z = some zq → hp_P G z H → va_S (hp_A G) s.heap H locs → lv_has ls 9 [(0, .ref a0), (1, .int x1), (2, .int x2)] → W p l e (hp_rm 2 49 0 0) s m [.ref a0, .int x1, .int x2].toArray below meth c H locs 0 0 (MQ below (hp_Qv G zq) [.ref a0, .int x1, .int x2].toArray s 0 0 (hp_A G)) (F0 m 309 ls []) := by
    intro z H locs ls h hP hS hl
    unfold f_X3_lookAtTwo_B309 at h
    exact hw_vret X hP hS hr hlocks h dX3_lookAtTwo_309
  have B306 : ∀ (s0 : Int32) (s1 : Int32) (s2 : Int32) (s3 : Int32) (s4 : Nat) (z : hp_S) (H : Heap) (locs : List Loc) (ls : Array Slot), f_X3_lookAtTwo_B306 fu a0 x1 x2 s0 s1 s2 s3 s4 z = some zq → hp_P G z H → va_S (hp_A G) s.heap H locs → lv_has ls 9 [(0, .ref a0), (1, .int x1), (2, .int x2)] → W p l e (hp_rm 2 49 0 0) s m [.ref a0, .int x1, .int x2].toArray below meth c H locs 0 0 (MQ below (hp_Qv G zq) [.ref a0, .int x1, .int x2].toArray s 0 0 (hp_A G)) (F0 m 306 ls [.int s0, .int s1, .int s2, .int s3, .ref s4]) := by
    intro s0 s1 s2 s3 s4 z H locs ls h hP hS hl
    unfold f_X3_lookAtTwo_B306 at h
    obtain ⟨_, hs, h⟩ := ho_bd h
    obtain ⟨z, q, h⟩ := ho_bd h
    refine hw_cv hS (hp_runV (As := [.int s3, .int s2, .int s1, .int s0]) (rest := []) X hP hS hl.1 LX3 (ho_is_s hs) kX3_123 ⟨m2_187, mp_10⟩ (c_X3_between l G fu s4 s3 s2 s1 s0 _ _ q) rfl (Nat.le_of_ble_eq_true rfl) ⟨⟨Nat.le_of_ble_eq_true rfl, Nat.le_of_ble_eq_true rfl⟩, Nat.le_of_ble_eq_true rfl, Nat.le_of_ble_eq_true rfl⟩ dX3_lookAtTwo_306) (fun H locs hP hS => ?_)
    exact B309 z _ _ _ h hP hS (lv_sub hl [0, 1, 2] rfl)
  have B301 : ∀ (s0 : Int32) (s1 : Int32) (s2 : Int32) (s3 : Nat) (z : hp_S) (H : Heap) (locs : List Loc) (ls : Array Slot), f_X3_lookAtTwo_B301 fu a0 x1 x2 s0 s1 s2 s3 z = some zq → hp_P G z H → va_S (hp_A G) s.heap H locs → lv_has ls 9 [(0, .ref a0), (1, .int x1), (2, .int x2)] → W p l e (hp_rm 2 49 0 0) s m [.ref a0, .int x1, .int x2].toArray below meth c H locs 0 0 (MQ below (hp_Qv G zq) [.ref a0, .int x1, .int x2].toArray s 0 0 (hp_A G)) (F0 m 301 ls [.int s0, .int s1, .int s2, .ref s3]) := by
    intro s0 s1 s2 s3 z H locs ls h hP hS hl
    unfold f_X3_lookAtTwo_B301 at h
    refine lv_iconst (v := 1) hx hb dX3_lookAtTwo_301 (by decide) ?_
    refine lv_goto (tgt := 306) hx hb dX3_lookAtTwo_302 (by decide) ?_
    exact B306 1 s0 s1 s2 s3 z _ _ _ h hP hS (lv_sub hl [0, 1, 2] rfl)
  have B248 : ∀ (z : hp_S) (H : Heap) (locs : List Loc) (ls : Array Slot), f_X3_lookAtTwo_B248 fu a0 x1 x2 z = some zq → hp_P G z H → va_S (hp_A G) s.heap H locs → lv_has ls 9 [(0, .ref a0), (1, .int x1), (2, .int x2)] → W p l e (hp_rm 2 49 0 0) s m [.ref a0, .int x1, .int x2].toArray below meth c H locs 0 0 (MQ below (hp_Qv G zq) [.ref a0, .int x1, .int x2].toArray s 0 0 (hp_A G)) (F0 m 248 ls []) := by
    intro z H locs ls h hP hS hl
    unfold f_X3_lookAtTwo_B248 at h
    refine lv_iload_n hx hb dX3_lookAtTwo_248 rfl (lv_at hl 2 rfl) ?_
    refine lv_iload_n hx hb dX3_lookAtTwo_249 rfl (lv_at hl 1 rfl) ?_
    refine lv_iconst (v := 1) hx hb dX3_lookAtTwo_250 (by decide) ?_
    refine lv_iadd hx hb dX3_lookAtTwo_251 ?_
    refine lv_icmp_ne (tgt := 309) hx hb dX3_lookAtTwo_252 (by decide) (fun hc => ?_) (fun hc => ?_)
    · replace h := ho_in hc h
      exact B309 z _ _ _ h hP hS (lv_sub hl [0, 1, 2] rfl)
    · replace h := ho_ip hc h
      refine lv_aload_n hx hb dX3_lookAtTwo_255 rfl (lv_at hl 0 rfl) ?_
      refine lv_iconst (v := 4) hx hb dX3_lookAtTwo_256 (by decide) ?_
      refine lv_iload_n hx hb dX3_lookAtTwo_257 rfl (lv_at hl 1 rfl) ?_
      refine lv_iload_n hx hb dX3_lookAtTwo_258 rfl (lv_at hl 2 rfl) ?_
      refine lv_aload_n hx hb dX3_lookAtTwo_259 rfl (lv_at hl 0 rfl) ?_
      obtain ⟨r9, q, h⟩ := ho_bd h
      refine hw_gr X hP LX3 fX3_25 rfl q dX3_lookAtTwo_260 ?_
      obtain ⟨r10, q, h⟩ := ho_bd h
      refine hw_gr X hP LX0 fX3_104 rfl q dX3_lookAtTwo_263 ?_
      refine lv_iload_n hx hb dX3_lookAtTwo_266 rfl (lv_at hl 1 rfl) ?_
      obtain ⟨v11, q, h⟩ := ho_bd h
      refine hw_li X hP q dX3_lookAtTwo_267 ?_
      refine lv_aload_n hx hb dX3_lookAtTwo_268 rfl (lv_at hl 0 rfl) ?_
      obtain ⟨r12, q, h⟩ := ho_bd h
      refine hw_gr X hP LX3 fX3_21 rfl q dX3_lookAtTwo_269 ?_
      obtain ⟨r13, q, h⟩ := ho_bd h
      refine hw_gr X hP LX0 fX3_104 rfl q dX3_lookAtTwo_272 ?_
      refine lv_iload_n hx hb dX3_lookAtTwo_275 rfl (lv_at hl 2 rfl) ?_
      obtain ⟨v14, q, h⟩ := ho_bd h
      refine hw_li X hP q dX3_lookAtTwo_276 ?_
      refine lv_icmp_gt (tgt := 301) hx hb dX3_lookAtTwo_277 (by decide) (fun hc => ?_) (fun hc => ?_)
      · replace h := ho_ip hc h
        exact B301 x2 x1 4 a0 z _ _ _ h hP hS (lv_sub hl [0, 1, 2] rfl)
      · replace h := ho_in hc h
        refine lv_aload_n hx hb dX3_lookAtTwo_280 rfl (lv_at hl 0 rfl) ?_
        obtain ⟨r15, q, h⟩ := ho_bd h
        refine hw_gr X hP LX3 fX3_25 rfl q dX3_lookAtTwo_281 ?_
        obtain ⟨r16, q, h⟩ := ho_bd h
        refine hw_gr X hP LX0 fX3_104 rfl q dX3_lookAtTwo_284 ?_
        refine lv_iload_n hx hb dX3_lookAtTwo_287 rfl (lv_at hl 2 rfl) ?_
        obtain ⟨v17, q, h⟩ := ho_bd h
        refine hw_li X hP q dX3_lookAtTwo_288 ?_
        refine lv_aload_n hx hb dX3_lookAtTwo_289 rfl (lv_at hl 0 rfl) ?_
        obtain ⟨r18, q, h⟩ := ho_bd h
        refine hw_gr X hP LX3 fX3_21 rfl q dX3_lookAtTwo_290 ?_
        obtain ⟨r19, q, h⟩ := ho_bd h
        refine hw_gr X hP LX0 fX3_104 rfl q dX3_lookAtTwo_293 ?_
        refine lv_iload_n hx hb dX3_lookAtTwo_296 rfl (lv_at hl 1 rfl) ?_
        obtain ⟨v20, q, h⟩ := ho_bd h
        refine hw_li X hP q dX3_lookAtTwo_297 ?_
        refine lv_icmp_ge (tgt := 305) hx hb dX3_lookAtTwo_298 (by decide) (fun hc => ?_) (fun hc => ?_)
        · replace h := ho_ip hc h
          refine lv_iconst (v := 0) hx hb dX3_lookAtTwo_305 (by decide) ?_
          exact B306 0 x2 x1 4 a0 z _ _ _ h hP hS (lv_sub hl [0, 1, 2] rfl)
        · replace h := ho_in hc h
          exact B301 x2 x1 4 a0 z _ _ _ h hP hS (lv_sub hl [0, 1, 2] rfl)
  have B245 : ∀ (s0 : Int32) (s1 : Int32) (s2 : Int32) (s3 : Int32) (s4 : Nat) (z : hp_S) (H : Heap) (locs : List Loc) (ls : Array Slot), f_X3_lookAtTwo_B245 fu a0 x1 x2 s0 s1 s2 s3 s4 z = some zq → hp_P G z H → va_S (hp_A G) s.heap H locs → lv_has ls 9 [(0, .ref a0), (1, .int x1), (2, .int x2)] → W p l e (hp_rm 2 49 0 0) s m [.ref a0, .int x1, .int x2].toArray below meth c H locs 0 0 (MQ below (hp_Qv G zq) [.ref a0, .int x1, .int x2].toArray s 0 0 (hp_A G)) (F0 m 245 ls [.int s0, .int s1, .int s2, .int s3, .ref s4]) := by
    intro s0 s1 s2 s3 s4 z H locs ls h hP hS hl
    unfold f_X3_lookAtTwo_B245 at h
    obtain ⟨_, hs, h⟩ := ho_bd h
    obtain ⟨z, q, h⟩ := ho_bd h
    refine hw_cv hS (hp_runV (As := [.int s3, .int s2, .int s1, .int s0]) (rest := []) X hP hS hl.1 LX3 (ho_is_s hs) kX3_123 ⟨m2_187, mp_10⟩ (c_X3_between l G fu s4 s3 s2 s1 s0 _ _ q) rfl (Nat.le_of_ble_eq_true rfl) ⟨⟨Nat.le_of_ble_eq_true rfl, Nat.le_of_ble_eq_true rfl⟩, Nat.le_of_ble_eq_true rfl, Nat.le_of_ble_eq_true rfl⟩ dX3_lookAtTwo_245) (fun H locs hP hS => ?_)
    exact B248 z _ _ _ h hP hS (lv_sub hl [0, 1, 2] rfl)
  have B244 : ∀ (s0 : Int32) (s1 : Int32) (s2 : Int32) (s3 : Nat) (z : hp_S) (H : Heap) (locs : List Loc) (ls : Array Slot), f_X3_lookAtTwo_B244 fu a0 x1 x2 s0 s1 s2 s3 z = some zq → hp_P G z H → va_S (hp_A G) s.heap H locs → lv_has ls 9 [(0, .ref a0), (1, .int x1), (2, .int x2)] → W p l e (hp_rm 2 49 0 0) s m [.ref a0, .int x1, .int x2].toArray below meth c H locs 0 0 (MQ below (hp_Qv G zq) [.ref a0, .int x1, .int x2].toArray s 0 0 (hp_A G)) (F0 m 244 ls [.int s0, .int s1, .int s2, .ref s3]) := by
    intro s0 s1 s2 s3 z H locs ls h hP hS hl
    unfold f_X3_lookAtTwo_B244 at h
    refine lv_iconst (v := 0) hx hb dX3_lookAtTwo_244 (by decide) ?_
    exact B245 0 s0 s1 s2 s3 z _ _ _ h hP hS (lv_sub hl [0, 1, 2] rfl)
  have B213 : ∀ (w3 : Int32) (w5 : Int32) (w6 : Int32) (w7 : Int32) (s0 : Int32) (z : hp_S) (H : Heap) (locs : List Loc) (ls : Array Slot), f_X3_lookAtTwo_B213 fu a0 x1 x2 w3 w5 w6 w7 s0 z = some zq → hp_P G z H → va_S (hp_A G) s.heap H locs → lv_has ls 9 [(0, .ref a0), (1, .int x1), (2, .int x2), (3, .int w3), (5, .int w5), (6, .int w6), (7, .int w7)] → W p l e (hp_rm 2 49 0 0) s m [.ref a0, .int x1, .int x2].toArray below meth c H locs 0 0 (MQ below (hp_Qv G zq) [.ref a0, .int x1, .int x2].toArray s 0 0 (hp_A G)) (F0 m 213 ls [.int s0]) := by
    intro w3 w5 w6 w7 s0 z H locs ls h hP hS hl
    unfold f_X3_lookAtTwo_B213 at h
    refine lv_istore (lv' := [(8, .int s0), (0, .ref a0), (1, .int x1), (2, .int x2), (3, .int w3), (5, .int w5), (6, .int w6), (7, .int w7)]) hx hb dX3_lookAtTwo_213 hl (by decide) rfl (fun ls hl => ?_)
    refine lv_aload_n hx hb dX3_lookAtTwo_215 rfl (lv_at hl 1 rfl) ?_
    refine lv_iconst (v := 2) hx hb dX3_lookAtTwo_216 (by decide) ?_
    refine lv_iload_n hx hb dX3_lookAtTwo_217 rfl (lv_at hl 2 rfl) ?_
    refine lv_iload_n hx hb dX3_lookAtTwo_218 rfl (lv_at hl 3 rfl) ?_
    refine lv_iload_n hx hb dX3_lookAtTwo_219 rfl (lv_at hl 4 rfl) ?_
    refine lv_if_eq (tgt := 244) hx hb dX3_lookAtTwo_220 (by decide) (fun hc => ?_) (fun hc => ?_)
    · replace h := ho_ip hc h
      exact B244 x2 x1 2 a0 z _ _ _ h hP hS (lv_sub hl [1, 2, 3] rfl)
    · replace h := ho_in hc h
      refine lv_iload hx hb dX3_lookAtTwo_223 (lv_at hl 7 rfl) ?_
      refine lv_if_eq (tgt := 244) hx hb dX3_lookAtTwo_225 (by decide) (fun hc => ?_) (fun hc => ?_)
      · replace h := ho_ip hc h
        exact B244 x2 x1 2 a0 z _ _ _ h hP hS (lv_sub hl [1, 2, 3] rfl)
      · replace h := ho_in hc h
        refine lv_iload hx hb dX3_lookAtTwo_228 (lv_at hl 5 rfl) ?_
        refine lv_iload hx hb dX3_lookAtTwo_230 (lv_at hl 6 rfl) ?_
        refine lv_icmp_eq (tgt := 244) hx hb dX3_lookAtTwo_232 (by decide) (fun hc => ?_) (fun hc => ?_)
        · replace h := ho_ip hc h
          exact B244 x2 x1 2 a0 z _ _ _ h hP hS (lv_sub hl [1, 2, 3] rfl)
        · replace h := ho_in hc h
          refine lv_iload hx hb dX3_lookAtTwo_235 (lv_at hl 0 rfl) ?_
          refine lv_if_eq (tgt := 244) hx hb dX3_lookAtTwo_237 (by decide) (fun hc => ?_) (fun hc => ?_)
          · replace h := ho_ip hc h
            exact B244 x2 x1 2 a0 z _ _ _ h hP hS (lv_sub hl [1, 2, 3] rfl)
          · replace h := ho_in hc h
            refine lv_iconst (v := 1) hx hb dX3_lookAtTwo_240 (by decide) ?_
            refine lv_goto (tgt := 245) hx hb dX3_lookAtTwo_241 (by decide) ?_
            exact B245 1 x2 x1 2 a0 z _ _ _ h hP hS (lv_sub hl [1, 2, 3] rfl)
  have B165 : ∀ (w3 : Int32) (w5 : Int32) (w6 : Int32) (w7 : Int32) (s0 : Int32) (s1 : Int32) (s2 : Int32) (s3 : Int32) (s4 : Nat) (z : hp_S) (H : Heap) (locs : List Loc) (ls : Array Slot), f_X3_lookAtTwo_B165 fu a0 x1 x2 w3 w5 w6 w7 s0 s1 s2 s3 s4 z = some zq → hp_P G z H → va_S (hp_A G) s.heap H locs → lv_has ls 9 [(0, .ref a0), (1, .int x1), (2, .int x2), (3, .int w3), (5, .int w5), (6, .int w6), (7, .int w7)] → W p l e (hp_rm 2 49 0 0) s m [.ref a0, .int x1, .int x2].toArray below meth c H locs 0 0 (MQ below (hp_Qv G zq) [.ref a0, .int x1, .int x2].toArray s 0 0 (hp_A G)) (F0 m 165 ls [.int s0, .int s1, .int s2, .int s3, .ref s4]) := by
    intro w3 w5 w6 w7 s0 s1 s2 s3 s4 z H locs ls h hP hS hl
    unfold f_X3_lookAtTwo_B165 at h
    obtain ⟨_, hs, h⟩ := ho_bd h
    obtain ⟨z, q, h⟩ := ho_bd h
    refine hw_cv hS (hp_runV (As := [.int s3, .int s2, .int s1, .int s0]) (rest := []) X hP hS hl.1 LX3 (ho_is_s hs) kX3_123 ⟨m2_187, mp_10⟩ (c_X3_between l G fu s4 s3 s2 s1 s0 _ _ q) rfl (Nat.le_of_ble_eq_true rfl) ⟨⟨Nat.le_of_ble_eq_true rfl, Nat.le_of_ble_eq_true rfl⟩, Nat.le_of_ble_eq_true rfl, Nat.le_of_ble_eq_true rfl⟩ dX3_lookAtTwo_165) (fun H locs hP hS => ?_)
    refine lv_iload_n hx hb dX3_lookAtTwo_168 rfl (lv_at hl 1 rfl) ?_
    refine lv_if_ne (tgt := 248) hx hb dX3_lookAtTwo_169 (by decide) (fun hc => ?_) (fun hc => ?_)
    · replace h := ho_in hc h
      exact B248 z _ _ _ h hP hS (lv_sub hl [0, 1, 2] rfl)
    · replace h := ho_ip hc h
      refine lv_iload_n hx hb dX3_lookAtTwo_172 rfl (lv_at hl 2 rfl) ?_
      refine lv_aload_n hx hb dX3_lookAtTwo_173 rfl (lv_at hl 0 rfl) ?_
      obtain ⟨v21, q, h⟩ := ho_bd h
      refine hw_gi X hP LX3 fX3_58 rfl q dX3_lookAtTwo_174 ?_
      refine lv_iconst (v := 1) hx hb dX3_lookAtTwo_177 (by decide) ?_
      refine lv_isub hx hb dX3_lookAtTwo_178 ?_
      refine lv_icmp_ne (tgt := 248) hx hb dX3_lookAtTwo_179 (by decide) (fun hc => ?_) (fun hc => ?_)
      · replace h := ho_in hc h
        exact B248 z _ _ _ h hP hS (lv_sub hl [0, 1, 2] rfl)
      · replace h := ho_ip hc h
        refine lv_aload_n hx hb dX3_lookAtTwo_182 rfl (lv_at hl 0 rfl) ?_
        obtain ⟨r22, q, h⟩ := ho_bd h
        refine hw_gr X hP LX3 fX3_25 rfl q dX3_lookAtTwo_183 ?_
        obtain ⟨r23, q, h⟩ := ho_bd h
        refine hw_gr X hP LX0 fX3_104 rfl q dX3_lookAtTwo_186 ?_
        refine lv_iload_n hx hb dX3_lookAtTwo_189 rfl (lv_at hl 2 rfl) ?_
        obtain ⟨v24, q, h⟩ := ho_bd h
        refine hw_li X hP q dX3_lookAtTwo_190 ?_
        refine lv_aload_n hx hb dX3_lookAtTwo_191 rfl (lv_at hl 0 rfl) ?_
        obtain ⟨r25, q, h⟩ := ho_bd h
        refine hw_gr X hP LX3 fX3_21 rfl q dX3_lookAtTwo_192 ?_
        obtain ⟨r26, q, h⟩ := ho_bd h
        refine hw_gr X hP LX0 fX3_104 rfl q dX3_lookAtTwo_195 ?_
        refine lv_iload_n hx hb dX3_lookAtTwo_198 rfl (lv_at hl 2 rfl) ?_
        obtain ⟨v27, q, h⟩ := ho_bd h
        refine hw_li X hP q dX3_lookAtTwo_199 ?_
        refine lv_isub hx hb dX3_lookAtTwo_200 ?_
        refine va_mabs hx hb (X.2.2.2.1.trans hl.1.symm) X.2.2.1 (hp_use X.2.2.2.2.1 m3_12 _) (hp_use X.2.2.2.2.1 m3_13 _) (hp_use X.2.2.2.2.1 m1_2 _) (hp_use X.2.2.2.2.1 m3_14 _) (Nat.le_of_ble_eq_true rfl) (Nat.le_of_ble_eq_true rfl) (Nat.zero_le _) (Nat.zero_le _) dX3_lookAtTwo_201 ?_
        obtain ⟨v28, q, h⟩ := ho_bd h
        refine hw_id q ?_
        refine lv_iconst (v := 2) hx hb dX3_lookAtTwo_204 (by decide) ?_
        refine lv_icmp_le (tgt := 212) hx hb dX3_lookAtTwo_205 (by decide) (fun hc => ?_) (fun hc => ?_)
        · replace h := ho_ip hc h
          refine lv_iconst (v := 0) hx hb dX3_lookAtTwo_212 (by decide) ?_
          exact B213 w3 w5 w6 w7 0 z _ _ _ h hP hS (lv_sub hl [0, 1, 2, 3, 4, 5, 6] rfl)
        · replace h := ho_in hc h
          refine lv_iconst (v := 1) hx hb dX3_lookAtTwo_208 (by decide) ?_
          refine lv_goto (tgt := 213) hx hb dX3_lookAtTwo_209 (by decide) ?_
          exact B213 w3 w5 w6 w7 1 z _ _ _ h hP hS (lv_sub hl [0, 1, 2, 3, 4, 5, 6] rfl)
  have B164 : ∀ (w3 : Int32) (w5 : Int32) (w6 : Int32) (w7 : Int32) (s0 : Int32) (s1 : Int32) (s2 : Int32) (s3 : Nat) (z : hp_S) (H : Heap) (locs : List Loc) (ls : Array Slot), f_X3_lookAtTwo_B164 fu a0 x1 x2 w3 w5 w6 w7 s0 s1 s2 s3 z = some zq → hp_P G z H → va_S (hp_A G) s.heap H locs → lv_has ls 9 [(0, .ref a0), (1, .int x1), (2, .int x2), (3, .int w3), (5, .int w5), (6, .int w6), (7, .int w7)] → W p l e (hp_rm 2 49 0 0) s m [.ref a0, .int x1, .int x2].toArray below meth c H locs 0 0 (MQ below (hp_Qv G zq) [.ref a0, .int x1, .int x2].toArray s 0 0 (hp_A G)) (F0 m 164 ls [.int s0, .int s1, .int s2, .ref s3]) := by
    intro w3 w5 w6 w7 s0 s1 s2 s3 z H locs ls h hP hS hl
    unfold f_X3_lookAtTwo_B164 at h
    refine lv_iconst (v := 0) hx hb dX3_lookAtTwo_164 (by decide) ?_
    exact B165 w3 w5 w6 w7 0 s0 s1 s2 s3 z _ _ _ h hP hS (lv_sub hl [0, 1, 2, 3, 4, 5, 6] rfl)
  have B136 : ∀ (w3 : Int32) (w5 : Int32) (w6 : Int32) (w7 : Int32) (s0 : Int32) (s1 : Int32) (s2 : Int32) (s3 : Int32) (s4 : Nat) (z : hp_S) (H : Heap) (locs : List Loc) (ls : Array Slot), f_X3_lookAtTwo_B136 fu a0 x1 x2 w3 w5 w6 w7 s0 s1 s2 s3 s4 z = some zq → hp_P G z H → va_S (hp_A G) s.heap H locs → lv_has ls 9 [(0, .ref a0), (1, .int x1), (2, .int x2), (3, .int w3), (5, .int w5), (6, .int w6), (7, .int w7)] → W p l e (hp_rm 2 49 0 0) s m [.ref a0, .int x1, .int x2].toArray below meth c H locs 0 0 (MQ below (hp_Qv G zq) [.ref a0, .int x1, .int x2].toArray s 0 0 (hp_A G)) (F0 m 136 ls [.int s0, .int s1, .int s2, .int s3, .ref s4]) := by
    intro w3 w5 w6 w7 s0 s1 s2 s3 s4 z H locs ls h hP hS hl
    unfold f_X3_lookAtTwo_B136 at h
    obtain ⟨_, hs, h⟩ := ho_bd h
    obtain ⟨z, q, h⟩ := ho_bd h
    refine hw_cv hS (hp_runV (As := [.int s3, .int s2, .int s1, .int s0]) (rest := []) X hP hS hl.1 LX3 (ho_is_s hs) kX3_123 ⟨m2_187, mp_10⟩ (c_X3_between l G fu s4 s3 s2 s1 s0 _ _ q) rfl (Nat.le_of_ble_eq_true rfl) ⟨⟨Nat.le_of_ble_eq_true rfl, Nat.le_of_ble_eq_true rfl⟩, Nat.le_of_ble_eq_true rfl, Nat.le_of_ble_eq_true rfl⟩ dX3_lookAtTwo_136) (fun H locs hP hS => ?_)
    refine lv_aload_n hx hb dX3_lookAtTwo_139 rfl (lv_at hl 0 rfl) ?_
    refine lv_bipush (v := 12) hx hb dX3_lookAtTwo_140 (by decide) ?_
    refine lv_iload_n hx hb dX3_lookAtTwo_142 rfl (lv_at hl 1 rfl) ?_
    refine lv_iload_n hx hb dX3_lookAtTwo_143 rfl (lv_at hl 2 rfl) ?_
    refine lv_iload_n hx hb dX3_lookAtTwo_144 rfl (lv_at hl 3 rfl) ?_
    refine lv_if_eq (tgt := 164) hx hb dX3_lookAtTwo_145 (by decide) (fun hc => ?_) (fun hc => ?_)
    · replace h := ho_ip hc h
      exact B164 w3 w5 w6 w7 x2 x1 12 a0 z _ _ _ h hP hS (lv_sub hl [0, 1, 2, 3, 4, 5, 6] rfl)
    · replace h := ho_in hc h
      refine lv_iload hx hb dX3_lookAtTwo_148 (lv_at hl 4 rfl) ?_
      refine lv_iconst (v := 3) hx hb dX3_lookAtTwo_150 (by decide) ?_
      refine lv_icmp_eq (tgt := 164) hx hb dX3_lookAtTwo_151 (by decide) (fun hc => ?_) (fun hc => ?_)
      · replace h := ho_ip hc h
        exact B164 w3 w5 w6 w7 x2 x1 12 a0 z _ _ _ h hP hS (lv_sub hl [0, 1, 2, 3, 4, 5, 6] rfl)
      · replace h := ho_in hc h
        refine lv_iload hx hb dX3_lookAtTwo_154 (lv_at hl 5 rfl) ?_
        refine lv_iconst (v := 3) hx hb dX3_lookAtTwo_156 (by decide) ?_
        refine lv_icmp_ne (tgt := 164) hx hb dX3_lookAtTwo_157 (by decide) (fun hc => ?_) (fun hc => ?_)
        · replace h := ho_in hc h
          exact B164 w3 w5 w6 w7 x2 x1 12 a0 z _ _ _ h hP hS (lv_sub hl [0, 1, 2, 3, 4, 5, 6] rfl)
        · replace h := ho_ip hc h
          refine lv_iconst (v := 1) hx hb dX3_lookAtTwo_160 (by decide) ?_
          refine lv_goto (tgt := 165) hx hb dX3_lookAtTwo_161 (by decide) ?_
          exact B165 w3 w5 w6 w7 1 x2 x1 12 a0 z _ _ _ h hP hS (lv_sub hl [0, 1, 2, 3, 4, 5, 6] rfl)
  have B135 : ∀ (w3 : Int32) (w5 : Int32) (w6 : Int32) (w7 : Int32) (s0 : Int32) (s1 : Int32) (s2 : Int32) (s3 : Nat) (z : hp_S) (H : Heap) (locs : List Loc) (ls : Array Slot), f_X3_lookAtTwo_B135 fu a0 x1 x2 w3 w5 w6 w7 s0 s1 s2 s3 z = some zq → hp_P G z H → va_S (hp_A G) s.heap H locs → lv_has ls 9 [(0, .ref a0), (1, .int x1), (2, .int x2), (3, .int w3), (5, .int w5), (6, .int w6), (7, .int w7)] → W p l e (hp_rm 2 49 0 0) s m [.ref a0, .int x1, .int x2].toArray below meth c H locs 0 0 (MQ below (hp_Qv G zq) [.ref a0, .int x1, .int x2].toArray s 0 0 (hp_A G)) (F0 m 135 ls [.int s0, .int s1, .int s2, .ref s3]) := by
    intro w3 w5 w6 w7 s0 s1 s2 s3 z H locs ls h hP hS hl
    unfold f_X3_lookAtTwo_B135 at h
    refine lv_iconst (v := 0) hx hb dX3_lookAtTwo_135 (by decide) ?_
    exact B136 w3 w5 w6 w7 0 s0 s1 s2 s3 z _ _ _ h hP hS (lv_sub hl [0, 1, 2, 3, 4, 5, 6] rfl)
  have B107 : ∀ (w3 : Int32) (w4 : Int32) (w5 : Int32) (w6 : Int32) (w7 : Int32) (s0 : Int32) (s1 : Int32) (s2 : Int32) (s3 : Int32) (s4 : Nat) (z : hp_S) (H : Heap) (locs : List Loc) (ls : Array Slot), f_X3_lookAtTwo_B107 fu a0 x1 x2 w3 w4 w5 w6 w7 s0 s1 s2 s3 s4 z = some zq → hp_P G z H → va_S (hp_A G) s.heap H locs → lv_has ls 9 [(0, .ref a0), (1, .int x1), (2, .int x2), (3, .int w3), (4, .int w4), (5, .int w5), (6, .int w6), (7, .int w7)] → W p l e (hp_rm 2 49 0 0) s m [.ref a0, .int x1, .int x2].toArray below meth c H locs 0 0 (MQ below (hp_Qv G zq) [.ref a0, .int x1, .int x2].toArray s 0 0 (hp_A G)) (F0 m 107 ls [.int s0, .int s1, .int s2, .int s3, .ref s4]) := by
    intro w3 w4 w5 w6 w7 s0 s1 s2 s3 s4 z H locs ls h hP hS hl
    unfold f_X3_lookAtTwo_B107 at h
    obtain ⟨_, hs, h⟩ := ho_bd h
    obtain ⟨z, q, h⟩ := ho_bd h
    refine hw_cv hS (hp_runV (As := [.int s3, .int s2, .int s1, .int s0]) (rest := []) X hP hS hl.1 LX3 (ho_is_s hs) kX3_123 ⟨m2_187, mp_10⟩ (c_X3_between l G fu s4 s3 s2 s1 s0 _ _ q) rfl (Nat.le_of_ble_eq_true rfl) ⟨⟨Nat.le_of_ble_eq_true rfl, Nat.le_of_ble_eq_true rfl⟩, Nat.le_of_ble_eq_true rfl, Nat.le_of_ble_eq_true rfl⟩ dX3_lookAtTwo_107) (fun H locs hP hS => ?_)
    refine lv_aload_n hx hb dX3_lookAtTwo_110 rfl (lv_at hl 0 rfl) ?_
    refine lv_iconst (v := 1) hx hb dX3_lookAtTwo_111 (by decide) ?_
    refine lv_iload_n hx hb dX3_lookAtTwo_112 rfl (lv_at hl 1 rfl) ?_
    refine lv_iload_n hx hb dX3_lookAtTwo_113 rfl (lv_at hl 2 rfl) ?_
    refine lv_iload hx hb dX3_lookAtTwo_114 (lv_at hl 4 rfl) ?_
    refine lv_if_eq (tgt := 135) hx hb dX3_lookAtTwo_116 (by decide) (fun hc => ?_) (fun hc => ?_)
    · replace h := ho_ip hc h
      exact B135 w3 w5 w6 w7 x2 x1 1 a0 z _ _ _ h hP hS (lv_sub hl [0, 1, 2, 3, 5, 6, 7] rfl)
    · replace h := ho_in hc h
      refine lv_iload hx hb dX3_lookAtTwo_119 (lv_at hl 7 rfl) ?_
      refine lv_if_eq (tgt := 135) hx hb dX3_lookAtTwo_121 (by decide) (fun hc => ?_) (fun hc => ?_)
      · replace h := ho_ip hc h
        exact B135 w3 w5 w6 w7 x2 x1 1 a0 z _ _ _ h hP hS (lv_sub hl [0, 1, 2, 3, 5, 6, 7] rfl)
      · replace h := ho_in hc h
        refine lv_iload hx hb dX3_lookAtTwo_124 (lv_at hl 5 rfl) ?_
        refine lv_iload hx hb dX3_lookAtTwo_126 (lv_at hl 6 rfl) ?_
        refine lv_icmp_ne (tgt := 135) hx hb dX3_lookAtTwo_128 (by decide) (fun hc => ?_) (fun hc => ?_)
        · replace h := ho_in hc h
          exact B135 w3 w5 w6 w7 x2 x1 1 a0 z _ _ _ h hP hS (lv_sub hl [0, 1, 2, 3, 5, 6, 7] rfl)
        · replace h := ho_ip hc h
          refine lv_iconst (v := 1) hx hb dX3_lookAtTwo_131 (by decide) ?_
          refine lv_goto (tgt := 136) hx hb dX3_lookAtTwo_132 (by decide) ?_
          exact B136 w3 w5 w6 w7 1 x2 x1 1 a0 z _ _ _ h hP hS (lv_sub hl [0, 1, 2, 3, 5, 6, 7] rfl)
  have B106 : ∀ (w3 : Int32) (w4 : Int32) (w5 : Int32) (w6 : Int32) (w7 : Int32) (s0 : Int32) (s1 : Int32) (s2 : Int32) (s3 : Nat) (z : hp_S) (H : Heap) (locs : List Loc) (ls : Array Slot), f_X3_lookAtTwo_B106 fu a0 x1 x2 w3 w4 w5 w6 w7 s0 s1 s2 s3 z = some zq → hp_P G z H → va_S (hp_A G) s.heap H locs → lv_has ls 9 [(0, .ref a0), (1, .int x1), (2, .int x2), (3, .int w3), (4, .int w4), (5, .int w5), (6, .int w6), (7, .int w7)] → W p l e (hp_rm 2 49 0 0) s m [.ref a0, .int x1, .int x2].toArray below meth c H locs 0 0 (MQ below (hp_Qv G zq) [.ref a0, .int x1, .int x2].toArray s 0 0 (hp_A G)) (F0 m 106 ls [.int s0, .int s1, .int s2, .ref s3]) := by
    intro w3 w4 w5 w6 w7 s0 s1 s2 s3 z H locs ls h hP hS hl
    unfold f_X3_lookAtTwo_B106 at h
    refine lv_iconst (v := 0) hx hb dX3_lookAtTwo_106 (by decide) ?_
    exact B107 w3 w4 w5 w6 w7 0 s0 s1 s2 s3 z _ _ _ h hP hS (lv_sub hl [0, 1, 2, 3, 4, 5, 6, 7] rfl)
  have B80 : ∀ (w3 : Int32) (w4 : Int32) (w5 : Int32) (w6 : Int32) (s0 : Int32) (z : hp_S) (H : Heap) (locs : List Loc) (ls : Array Slot), f_X3_lookAtTwo_B80 fu a0 x1 x2 w3 w4 w5 w6 s0 z = some zq → hp_P G z H → va_S (hp_A G) s.heap H locs → lv_has ls 9 [(0, .ref a0), (1, .int x1), (2, .int x2), (3, .int w3), (4, .int w4), (5, .int w5), (6, .int w6)] → W p l e (hp_rm 2 49 0 0) s m [.ref a0, .int x1, .int x2].toArray below meth c H locs 0 0 (MQ below (hp_Qv G zq) [.ref a0, .int x1, .int x2].toArray s 0 0 (hp_A G)) (F0 m 80 ls [.int s0]) := by
    intro w3 w4 w5 w6 s0 z H locs ls h hP hS hl
    unfold f_X3_lookAtTwo_B80 at h
    refine lv_istore (lv' := [(7, .int s0), (0, .ref a0), (1, .int x1), (2, .int x2), (3, .int w3), (4, .int w4), (5, .int w5), (6, .int w6)]) hx hb dX3_lookAtTwo_80 hl (by decide) rfl (fun ls hl => ?_)
    refine lv_aload_n hx hb dX3_lookAtTwo_82 rfl (lv_at hl 1 rfl) ?_
    refine lv_iconst (v := 0) hx hb dX3_lookAtTwo_83 (by decide) ?_
    refine lv_iload_n hx hb dX3_lookAtTwo_84 rfl (lv_at hl 2 rfl) ?_
    refine lv_iload_n hx hb dX3_lookAtTwo_85 rfl (lv_at hl 3 rfl) ?_
    refine lv_iload_n hx hb dX3_lookAtTwo_86 rfl (lv_at hl 4 rfl) ?_
    refine lv_if_eq (tgt := 106) hx hb dX3_lookAtTwo_87 (by decide) (fun hc => ?_) (fun hc => ?_)
    · replace h := ho_ip hc h
      exact B106 w3 w4 w5 w6 s0 x2 x1 0 a0 z _ _ _ h hP hS (lv_sub hl [1, 2, 3, 4, 5, 6, 7, 0] rfl)
    · replace h := ho_in hc h
      refine lv_iload hx hb dX3_lookAtTwo_90 (lv_at hl 0 rfl) ?_
      refine lv_if_eq (tgt := 106) hx hb dX3_lookAtTwo_92 (by decide) (fun hc => ?_) (fun hc => ?_)
      · replace h := ho_ip hc h
        exact B106 w3 w4 w5 w6 s0 x2 x1 0 a0 z _ _ _ h hP hS (lv_sub hl [1, 2, 3, 4, 5, 6, 7, 0] rfl)
      · replace h := ho_in hc h
        refine lv_iload hx hb dX3_lookAtTwo_95 (lv_at hl 6 rfl) ?_
        refine lv_iload hx hb dX3_lookAtTwo_97 (lv_at hl 7 rfl) ?_
        refine lv_icmp_ne (tgt := 106) hx hb dX3_lookAtTwo_99 (by decide) (fun hc => ?_) (fun hc => ?_)
        · replace h := ho_in hc h
          exact B106 w3 w4 w5 w6 s0 x2 x1 0 a0 z _ _ _ h hP hS (lv_sub hl [1, 2, 3, 4, 5, 6, 7, 0] rfl)
        · replace h := ho_ip hc h
          refine lv_iconst (v := 1) hx hb dX3_lookAtTwo_102 (by decide) ?_
          refine lv_goto (tgt := 107) hx hb dX3_lookAtTwo_103 (by decide) ?_
          exact B107 w3 w4 w5 w6 s0 1 x2 x1 0 a0 z _ _ _ h hP hS (lv_sub hl [1, 2, 3, 4, 5, 6, 7, 0] rfl)
  have B75 : ∀ (w3 : Int32) (w4 : Int32) (w5 : Int32) (w6 : Int32) (z : hp_S) (H : Heap) (locs : List Loc) (ls : Array Slot), f_X3_lookAtTwo_B75 fu a0 x1 x2 w3 w4 w5 w6 z = some zq → hp_P G z H → va_S (hp_A G) s.heap H locs → lv_has ls 9 [(0, .ref a0), (1, .int x1), (2, .int x2), (3, .int w3), (4, .int w4), (5, .int w5), (6, .int w6)] → W p l e (hp_rm 2 49 0 0) s m [.ref a0, .int x1, .int x2].toArray below meth c H locs 0 0 (MQ below (hp_Qv G zq) [.ref a0, .int x1, .int x2].toArray s 0 0 (hp_A G)) (F0 m 75 ls []) := by
    intro w3 w4 w5 w6 z H locs ls h hP hS hl
    unfold f_X3_lookAtTwo_B75 at h
    refine lv_iconst (v := 1) hx hb dX3_lookAtTwo_75 (by decide) ?_
    refine lv_goto (tgt := 80) hx hb dX3_lookAtTwo_76 (by decide) ?_
    exact B80 w3 w4 w5 w6 1 z _ _ _ h hP hS (lv_sub hl [0, 1, 2, 3, 4, 5, 6] rfl)
  have B39 : ∀ (w3 : Int32) (s0 : Int32) (z : hp_S) (H : Heap) (locs : List Loc) (ls : Array Slot), f_X3_lookAtTwo_B39 fu a0 x1 x2 w3 s0 z = some zq → hp_P G z H → va_S (hp_A G) s.heap H locs → lv_has ls 9 [(0, .ref a0), (1, .int x1), (2, .int x2), (3, .int w3)] → W p l e (hp_rm 2 49 0 0) s m [.ref a0, .int x1, .int x2].toArray below meth c H locs 0 0 (MQ below (hp_Qv G zq) [.ref a0, .int x1, .int x2].toArray s 0 0 (hp_A G)) (F0 m 39 ls [.int s0]) := by
    intro w3 s0 z H locs ls h hP hS hl
    unfold f_X3_lookAtTwo_B39 at h
    refine lv_istore (lv' := [(4, .int s0), (0, .ref a0), (1, .int x1), (2, .int x2), (3, .int w3)]) hx hb dX3_lookAtTwo_39 hl (by decide) rfl (fun ls hl => ?_)
    refine lv_aload_n hx hb dX3_lookAtTwo_41 rfl (lv_at hl 1 rfl) ?_
    obtain ⟨r5, q, h⟩ := ho_bd h
    refine hw_gr X hP LX3 fX3_21 rfl q dX3_lookAtTwo_42 ?_
    refine lv_iload_n hx hb dX3_lookAtTwo_45 rfl (lv_at hl 2 rfl) ?_
    refine lv_iload_n hx hb dX3_lookAtTwo_46 rfl (lv_at hl 3 rfl) ?_
    obtain ⟨_, hs, h⟩ := ho_bd h
    obtain ⟨⟨v6, z⟩, q, h⟩ := ho_bd h
    refine hw_ci hS (hp_runV (As := [.int x1, .int x2]) (rest := []) X hP hS hl.1 LX0 (ho_is_s hs) kX3_160 ⟨m3_4, m3_5⟩ (c_X0_quality l G fu r5 x1 x2 _ _ _ q) rfl (Nat.le_of_ble_eq_true rfl) ⟨⟨Nat.le_of_ble_eq_true rfl, Nat.le_of_ble_eq_true rfl⟩, Nat.le_of_ble_eq_true rfl, Nat.le_of_ble_eq_true rfl⟩ dX3_lookAtTwo_47) (fun H locs hP hS => ?_)
    refine lv_istore (lv' := [(5, .int v6), (4, .int s0), (0, .ref a0), (1, .int x1), (2, .int x2), (3, .int w3)]) hx hb dX3_lookAtTwo_50 hl (by decide) rfl (fun ls hl => ?_)
    refine lv_aload_n hx hb dX3_lookAtTwo_52 rfl (lv_at hl 2 rfl) ?_
    obtain ⟨r7, q, h⟩ := ho_bd h
    refine hw_gr X hP LX3 fX3_25 rfl q dX3_lookAtTwo_53 ?_
    refine lv_iload_n hx hb dX3_lookAtTwo_56 rfl (lv_at hl 3 rfl) ?_
    refine lv_iload_n hx hb dX3_lookAtTwo_57 rfl (lv_at hl 4 rfl) ?_
    obtain ⟨_, hs, h⟩ := ho_bd h
    obtain ⟨⟨v8, z⟩, q, h⟩ := ho_bd h
    refine hw_ci hS (hp_runV (As := [.int x1, .int x2]) (rest := []) X hP hS hl.1 LX0 (ho_is_s hs) kX3_160 ⟨m3_4, m3_5⟩ (c_X0_quality l G fu r7 x1 x2 _ _ _ q) rfl (Nat.le_of_ble_eq_true rfl) ⟨⟨Nat.le_of_ble_eq_true rfl, Nat.le_of_ble_eq_true rfl⟩, Nat.le_of_ble_eq_true rfl, Nat.le_of_ble_eq_true rfl⟩ dX3_lookAtTwo_58) (fun H locs hP hS => ?_)
    refine lv_istore (lv' := [(6, .int v8), (5, .int v6), (4, .int s0), (0, .ref a0), (1, .int x1), (2, .int x2), (3, .int w3)]) hx hb dX3_lookAtTwo_61 hl (by decide) rfl (fun ls hl => ?_)
    refine lv_iload hx hb dX3_lookAtTwo_63 (lv_at hl 0 rfl) ?_
    refine lv_iconst (v := 1) hx hb dX3_lookAtTwo_65 (by decide) ?_
    refine lv_icmp_eq (tgt := 75) hx hb dX3_lookAtTwo_66 (by decide) (fun hc => ?_) (fun hc => ?_)
    · replace h := ho_ip hc h
      exact B75 w3 s0 v6 v8 z _ _ _ h hP hS (lv_sub hl [3, 4, 5, 6, 2, 1, 0] rfl)
    · replace h := ho_in hc h
      refine lv_iload hx hb dX3_lookAtTwo_69 (lv_at hl 0 rfl) ?_
      refine lv_iconst (v := 2) hx hb dX3_lookAtTwo_71 (by decide) ?_
      refine lv_icmp_ne (tgt := 79) hx hb dX3_lookAtTwo_72 (by decide) (fun hc => ?_) (fun hc => ?_)
      · replace h := ho_in hc h
        refine lv_iconst (v := 0) hx hb dX3_lookAtTwo_79 (by decide) ?_
        exact B80 w3 s0 v6 v8 0 z _ _ _ h hP hS (lv_sub hl [3, 4, 5, 6, 2, 1, 0] rfl)
      · replace h := ho_ip hc h
        exact B75 w3 s0 v6 v8 z _ _ _ h hP hS (lv_sub hl [3, 4, 5, 6, 2, 1, 0] rfl)
  have B19 : ∀ (s0 : Int32) (z : hp_S) (H : Heap) (locs : List Loc) (ls : Array Slot), f_X3_lookAtTwo_B19 fu a0 x1 x2 s0 z = some zq → hp_P G z H → va_S (hp_A G) s.heap H locs → lv_has ls 9 [(0, .ref a0), (1, .int x1), (2, .int x2)] → W p l e (hp_rm 2 49 0 0) s m [.ref a0, .int x1, .int x2].toArray below meth c H locs 0 0 (MQ below (hp_Qv G zq) [.ref a0, .int x1, .int x2].toArray s 0 0 (hp_A G)) (F0 m 19 ls [.int s0]) := by
    intro s0 z H locs ls h hP hS hl
    unfold f_X3_lookAtTwo_B19 at h
    refine lv_istore_n (lv' := [(3, .int s0), (0, .ref a0), (1, .int x1), (2, .int x2)]) hx hb dX3_lookAtTwo_19 rfl hl (by decide) rfl (fun ls hl => ?_)
    refine lv_aload_n hx hb dX3_lookAtTwo_20 rfl (lv_at hl 1 rfl) ?_
    refine lv_iload_n hx hb dX3_lookAtTwo_21 rfl (lv_at hl 2 rfl) ?_
    obtain ⟨_, hs, h⟩ := ho_bd h
    obtain ⟨⟨v3, z⟩, q, h⟩ := ho_bd h
    refine hw_ci hS (hp_runV (As := [.int x1]) (rest := []) X hP hS hl.1 LX3 (ho_is_s hs) kX3_157 ⟨m2_238, mp_16⟩ (c_X3_way l G fu a0 x1 _ _ _ q) rfl (Nat.le_of_ble_eq_true rfl) ⟨⟨Nat.le_of_ble_eq_true rfl, Nat.le_of_ble_eq_true rfl⟩, Nat.le_of_ble_eq_true rfl, Nat.le_of_ble_eq_true rfl⟩ dX3_lookAtTwo_22) (fun H locs hP hS => ?_)
    refine lv_aload_n hx hb dX3_lookAtTwo_25 rfl (lv_at hl 1 rfl) ?_
    refine lv_iload_n hx hb dX3_lookAtTwo_26 rfl (lv_at hl 3 rfl) ?_
    obtain ⟨_, hs, h⟩ := ho_bd h
    obtain ⟨⟨v4, z⟩, q, h⟩ := ho_bd h
    refine hw_ci hS (hp_runV (As := [.int x2]) (rest := [.int v3]) X hP hS hl.1 LX3 (ho_is_s hs) kX3_157 ⟨m2_238, mp_16⟩ (c_X3_way l G fu a0 x2 _ _ _ q) rfl (Nat.le_of_ble_eq_true rfl) ⟨⟨Nat.le_of_ble_eq_true rfl, Nat.le_of_ble_eq_true rfl⟩, Nat.le_of_ble_eq_true rfl, Nat.le_of_ble_eq_true rfl⟩ dX3_lookAtTwo_27) (fun H locs hP hS => ?_)
    refine lv_imul hx hb dX3_lookAtTwo_30 ?_
    refine lv_if_ge (tgt := 38) hx hb dX3_lookAtTwo_31 (by decide) (fun hc => ?_) (fun hc => ?_)
    · replace h := ho_ip hc h
      refine lv_iconst (v := 0) hx hb dX3_lookAtTwo_38 (by decide) ?_
      exact B39 s0 0 z _ _ _ h hP hS (lv_sub hl [1, 2, 3, 0] rfl)
    · replace h := ho_in hc h
      refine lv_iconst (v := 1) hx hb dX3_lookAtTwo_34 (by decide) ?_
      refine lv_goto (tgt := 39) hx hb dX3_lookAtTwo_35 (by decide) ?_
      exact B39 s0 1 z _ _ _ h hP hS (lv_sub hl [1, 2, 3, 0] rfl)
  unfold f_X3_lookAtTwo at h
  refine lv_aload_n hx hb dX3_lookAtTwo_0 rfl (lv_at hl 0 rfl) ?_
  refine lv_iload_n hx hb dX3_lookAtTwo_1 rfl (lv_at hl 1 rfl) ?_
  obtain ⟨_, hs, h⟩ := ho_bd h
  obtain ⟨⟨v1, z⟩, q, h⟩ := ho_bd h
  refine hw_ci hS (hp_runV (As := [.int x1]) (rest := []) X hP hS hl.1 LX3 (ho_is_s hs) kX3_157 ⟨m2_238, mp_16⟩ (c_X3_way l G fu a0 x1 _ _ _ q) rfl (Nat.le_of_ble_eq_true rfl) ⟨⟨Nat.le_of_ble_eq_true rfl, Nat.le_of_ble_eq_true rfl⟩, Nat.le_of_ble_eq_true rfl, Nat.le_of_ble_eq_true rfl⟩ dX3_lookAtTwo_2) (fun H locs hP hS => ?_)
  refine lv_aload_n hx hb dX3_lookAtTwo_5 rfl (lv_at hl 0 rfl) ?_
  refine lv_iload_n hx hb dX3_lookAtTwo_6 rfl (lv_at hl 2 rfl) ?_
  obtain ⟨_, hs, h⟩ := ho_bd h
  obtain ⟨⟨v2, z⟩, q, h⟩ := ho_bd h
  refine hw_ci hS (hp_runV (As := [.int x2]) (rest := [.int v1]) X hP hS hl.1 LX3 (ho_is_s hs) kX3_157 ⟨m2_238, mp_16⟩ (c_X3_way l G fu a0 x2 _ _ _ q) rfl (Nat.le_of_ble_eq_true rfl) ⟨⟨Nat.le_of_ble_eq_true rfl, Nat.le_of_ble_eq_true rfl⟩, Nat.le_of_ble_eq_true rfl, Nat.le_of_ble_eq_true rfl⟩ dX3_lookAtTwo_7) (fun H locs hP hS => ?_)
  refine lv_imul hx hb dX3_lookAtTwo_10 ?_
  refine lv_if_le (tgt := 18) hx hb dX3_lookAtTwo_11 (by decide) (fun hc => ?_) (fun hc => ?_)
  · replace h := ho_ip hc h
    refine lv_iconst (v := 0) hx hb dX3_lookAtTwo_18 (by decide) ?_
    exact B19 0 z _ _ _ h hP hS (lv_sub hl [0, 1, 2] rfl)
  · replace h := ho_in hc h
    refine lv_iconst (v := 1) hx hb dX3_lookAtTwo_14 (by decide) ?_
    refine lv_goto (tgt := 19) hx hb dX3_lookAtTwo_15 (by decide) ?_
    exact B19 1 z _ _ _ h hP hS (lv_sub hl [0, 1, 2] rfl)
def f_X3_isCrossRelation_B97 (fu : Nat) (a0 : Nat) (x1 : Int32) (x2 : Int32) (s0 : Int32) (z : hp_S) : Option (Int32 × hp_S) :=
  if vp_nar .boolean s0 = s0 then some (s0, z) else none
def f_X3_isCrossRelation_B96 (fu : Nat) (a0 : Nat) (x1 : Int32) (x2 : Int32) (z : hp_S) : Option (Int32 × hp_S) :=
  f_X3_isCrossRelation_B97 fu a0 x1 x2 0 z
def f_X3_isCrossRelation (fu : Nat) (a0 : Nat) (x1 : Int32) (x2 : Int32) (z : hp_S) : Option (Int32 × hp_S) :=
  (ho_gr 3 a0 1 z).bind fun r1 =>
  (ho_gr 0 r1 0 z).bind fun r2 =>
  (ho_li 2 r2 x1 z).bind fun v3 =>
  if v3 = 0 then (
    f_X3_isCrossRelation_B96 fu a0 x1 x2  z
  ) else (
    (ho_gr 3 a0 2 z).bind fun r4 =>
    (ho_gr 0 r4 0 z).bind fun r5 =>
    (ho_li 2 r5 x2 z).bind fun v6 =>
    if v6 = 0 then (
      f_X3_isCrossRelation_B96 fu a0 x1 x2  z
    ) else (
      (ho_gr 3 a0 1 z).bind fun r7 =>
      (ho_is 0 r7 z).bind fun _ =>
      (f_X0_letter fu r7 x1 z).bind fun ⟨v8, z⟩ =>
      (ho_gr 3 a0 2 z).bind fun r9 =>
      (ho_is 0 r9 z).bind fun _ =>
      (f_X0_letter fu r9 x2 z).bind fun ⟨v10, z⟩ =>
      if v8 = v10 then (
        (ho_gr 3 a0 1 z).bind fun r11 =>
        (ho_gr 0 r11 2 z).bind fun r12 =>
        (ho_li 1 r12 x1 z).bind fun v13 =>
        (ho_gr 3 a0 2 z).bind fun r14 =>
        (ho_gr 0 r14 2 z).bind fun r15 =>
        (ho_li 1 r15 x2 z).bind fun v16 =>
        if v13 = v16 then (
          f_X3_isCrossRelation_B96 fu a0 x1 x2  z
        ) else (
          (ho_gr 3 a0 2 z).bind fun r17 =>
          (ho_gr 3 a0 2 z).bind fun r18 =>
          (ho_is 0 r18 z).bind fun _ =>
          (f_X0_letter fu r18 x2 z).bind fun ⟨v19, z⟩ =>
          (ho_gr 3 a0 2 z).bind fun r20 =>
          (ho_gr 0 r20 2 z).bind fun r21 =>
          (ho_li 1 r21 x2 z).bind fun v22 =>
          (ho_is 0 r17 z).bind fun _ =>
          (f_X0_isNoteOf fu r17 x1 v19 v22 z).bind fun ⟨v23, z⟩ =>
          if v23 = 0 then (
            f_X3_isCrossRelation_B97 fu a0 x1 x2 1 z
          ) else (
            f_X3_isCrossRelation_B96 fu a0 x1 x2  z
          )
        )
      ) else (
        f_X3_isCrossRelation_B96 fu a0 x1 x2  z
      )
    )
  )
set_option maxHeartbeats 4000000 in
set_option maxRecDepth 100000 in
theorem c_X3_isCrossRelation (l : Launch) (G : hp_G) (fu : Nat) (a0 : Nat) (x1 : Int32) (x2 : Int32) (z : hp_S) (rq : Int32) (zq : hp_S) (h : f_X3_isCrossRelation fu a0 x1 x2 z = some (rq, zq)) : hp_M l G yX3_isCrossRelation cX3_isCrossRelation 3 (some .boolean) 2 44 0 0 [.ref a0, .int x1, .int x2] z (hp_Qi G rq zq) := by
  refine hp_M.of (by decide) (Nat.le_of_ble_eq_true rfl) ?_
  intro p e s m below meth c X hr hlocks hnm hP hS ls hl
  have X : hp_C G cX3_isCrossRelation RX3 3 p s m c := X
  have hl : lv_has ls 3 [(0, .ref a0), (1, .int x1), (2, .int x2)] := hl
  have hx := X.1
  have hb := X.2.1
  have B97 : ∀ (s0 : Int32) (z : hp_S) (H : Heap) (locs : List Loc) (ls : Array Slot), f_X3_isCrossRelation_B97 fu a0 x1 x2 s0 z = some (rq, zq) → hp_P G z H → va_S (hp_A G) s.heap H locs → lv_has ls 3 [(0, .ref a0), (1, .int x1), (2, .int x2)] → W p l e (hp_rm 2 44 0 0) s m [.ref a0, .int x1, .int x2].toArray below meth c H locs 0 0 (MQ below (hp_Qi G rq zq) [.ref a0, .int x1, .int x2].toArray s 0 0 (hp_A G)) (F0 m 97 ls [.int s0]) := by
    intro s0 z H locs ls h hP hS hl
    unfold f_X3_isCrossRelation_B97 at h
    exact hw_zret X hP hS hr hlocks h dX3_isCrossRelation_97
  have B96 : ∀ (z : hp_S) (H : Heap) (locs : List Loc) (ls : Array Slot), f_X3_isCrossRelation_B96 fu a0 x1 x2 z = some (rq, zq) → hp_P G z H → va_S (hp_A G) s.heap H locs → lv_has ls 3 [(0, .ref a0), (1, .int x1), (2, .int x2)] → W p l e (hp_rm 2 44 0 0) s m [.ref a0, .int x1, .int x2].toArray below meth c H locs 0 0 (MQ below (hp_Qi G rq zq) [.ref a0, .int x1, .int x2].toArray s 0 0 (hp_A G)) (F0 m 96 ls []) := by
    intro z H locs ls h hP hS hl
    unfold f_X3_isCrossRelation_B96 at h
    refine lv_iconst (v := 0) hx hb dX3_isCrossRelation_96 (by decide) ?_
    exact B97 0 z _ _ _ h hP hS (lv_sub hl [0, 1, 2] rfl)
  unfold f_X3_isCrossRelation at h
  refine lv_aload_n hx hb dX3_isCrossRelation_0 rfl (lv_at hl 0 rfl) ?_
  obtain ⟨r1, q, h⟩ := ho_bd h
  refine hw_gr X hP LX3 fX3_21 rfl q dX3_isCrossRelation_1 ?_
  obtain ⟨r2, q, h⟩ := ho_bd h
  refine hw_gr X hP LX0 fX3_93 rfl q dX3_isCrossRelation_4 ?_
  refine lv_iload_n hx hb dX3_isCrossRelation_7 rfl (lv_at hl 1 rfl) ?_
  obtain ⟨v3, q, h⟩ := ho_bd h
  refine hw_lz X hP q dX3_isCrossRelation_8 ?_
  refine lv_if_eq (tgt := 96) hx hb dX3_isCrossRelation_9 (by decide) (fun hc => ?_) (fun hc => ?_)
  · replace h := ho_ip hc h
    exact B96 z _ _ _ h hP hS (lv_sub hl [0, 1, 2] rfl)
  · replace h := ho_in hc h
    refine lv_aload_n hx hb dX3_isCrossRelation_12 rfl (lv_at hl 0 rfl) ?_
    obtain ⟨r4, q, h⟩ := ho_bd h
    refine hw_gr X hP LX3 fX3_25 rfl q dX3_isCrossRelation_13 ?_
    obtain ⟨r5, q, h⟩ := ho_bd h
    refine hw_gr X hP LX0 fX3_93 rfl q dX3_isCrossRelation_16 ?_
    refine lv_iload_n hx hb dX3_isCrossRelation_19 rfl (lv_at hl 2 rfl) ?_
    obtain ⟨v6, q, h⟩ := ho_bd h
    refine hw_lz X hP q dX3_isCrossRelation_20 ?_
    refine lv_if_eq (tgt := 96) hx hb dX3_isCrossRelation_21 (by decide) (fun hc => ?_) (fun hc => ?_)
    · replace h := ho_ip hc h
      exact B96 z _ _ _ h hP hS (lv_sub hl [0, 1, 2] rfl)
    · replace h := ho_in hc h
      refine lv_aload_n hx hb dX3_isCrossRelation_24 rfl (lv_at hl 0 rfl) ?_
      obtain ⟨r7, q, h⟩ := ho_bd h
      refine hw_gr X hP LX3 fX3_21 rfl q dX3_isCrossRelation_25 ?_
      refine lv_iload_n hx hb dX3_isCrossRelation_28 rfl (lv_at hl 1 rfl) ?_
      obtain ⟨_, hs, h⟩ := ho_bd h
      obtain ⟨⟨v8, z⟩, q, h⟩ := ho_bd h
      refine hw_ci hS (hp_runV (As := [.int x1]) (rest := []) X hP hS hl.1 LX0 (ho_is_s hs) kX3_166 ⟨m2_210, m2_211⟩ (c_X0_letter l G fu r7 x1 _ _ _ q) rfl (Nat.le_of_ble_eq_true rfl) ⟨⟨Nat.le_of_ble_eq_true rfl, Nat.le_of_ble_eq_true rfl⟩, Nat.le_of_ble_eq_true rfl, Nat.le_of_ble_eq_true rfl⟩ dX3_isCrossRelation_29) (fun H locs hP hS => ?_)
      refine lv_aload_n hx hb dX3_isCrossRelation_32 rfl (lv_at hl 0 rfl) ?_
      obtain ⟨r9, q, h⟩ := ho_bd h
      refine hw_gr X hP LX3 fX3_25 rfl q dX3_isCrossRelation_33 ?_
      refine lv_iload_n hx hb dX3_isCrossRelation_36 rfl (lv_at hl 2 rfl) ?_
      obtain ⟨_, hs, h⟩ := ho_bd h
      obtain ⟨⟨v10, z⟩, q, h⟩ := ho_bd h
      refine hw_ci hS (hp_runV (As := [.int x2]) (rest := [.int v8]) X hP hS hl.1 LX0 (ho_is_s hs) kX3_166 ⟨m2_210, m2_211⟩ (c_X0_letter l G fu r9 x2 _ _ _ q) rfl (Nat.le_of_ble_eq_true rfl) ⟨⟨Nat.le_of_ble_eq_true rfl, Nat.le_of_ble_eq_true rfl⟩, Nat.le_of_ble_eq_true rfl, Nat.le_of_ble_eq_true rfl⟩ dX3_isCrossRelation_37) (fun H locs hP hS => ?_)
      refine lv_icmp_ne (tgt := 96) hx hb dX3_isCrossRelation_40 (by decide) (fun hc => ?_) (fun hc => ?_)
      · replace h := ho_in hc h
        exact B96 z _ _ _ h hP hS (lv_sub hl [0, 1, 2] rfl)
      · replace h := ho_ip hc h
        refine lv_aload_n hx hb dX3_isCrossRelation_43 rfl (lv_at hl 0 rfl) ?_
        obtain ⟨r11, q, h⟩ := ho_bd h
        refine hw_gr X hP LX3 fX3_21 rfl q dX3_isCrossRelation_44 ?_
        obtain ⟨r12, q, h⟩ := ho_bd h
        refine hw_gr X hP LX0 fX3_169 rfl q dX3_isCrossRelation_47 ?_
        refine lv_iload_n hx hb dX3_isCrossRelation_50 rfl (lv_at hl 1 rfl) ?_
        obtain ⟨v13, q, h⟩ := ho_bd h
        refine hw_li X hP q dX3_isCrossRelation_51 ?_
        refine lv_aload_n hx hb dX3_isCrossRelation_52 rfl (lv_at hl 0 rfl) ?_
        obtain ⟨r14, q, h⟩ := ho_bd h
        refine hw_gr X hP LX3 fX3_25 rfl q dX3_isCrossRelation_53 ?_
        obtain ⟨r15, q, h⟩ := ho_bd h
        refine hw_gr X hP LX0 fX3_169 rfl q dX3_isCrossRelation_56 ?_
        refine lv_iload_n hx hb dX3_isCrossRelation_59 rfl (lv_at hl 2 rfl) ?_
        obtain ⟨v16, q, h⟩ := ho_bd h
        refine hw_li X hP q dX3_isCrossRelation_60 ?_
        refine lv_icmp_eq (tgt := 96) hx hb dX3_isCrossRelation_61 (by decide) (fun hc => ?_) (fun hc => ?_)
        · replace h := ho_ip hc h
          exact B96 z _ _ _ h hP hS (lv_sub hl [0, 1, 2] rfl)
        · replace h := ho_in hc h
          refine lv_aload_n hx hb dX3_isCrossRelation_64 rfl (lv_at hl 0 rfl) ?_
          obtain ⟨r17, q, h⟩ := ho_bd h
          refine hw_gr X hP LX3 fX3_25 rfl q dX3_isCrossRelation_65 ?_
          refine lv_iload_n hx hb dX3_isCrossRelation_68 rfl (lv_at hl 1 rfl) ?_
          refine lv_aload_n hx hb dX3_isCrossRelation_69 rfl (lv_at hl 0 rfl) ?_
          obtain ⟨r18, q, h⟩ := ho_bd h
          refine hw_gr X hP LX3 fX3_25 rfl q dX3_isCrossRelation_70 ?_
          refine lv_iload_n hx hb dX3_isCrossRelation_73 rfl (lv_at hl 2 rfl) ?_
          obtain ⟨_, hs, h⟩ := ho_bd h
          obtain ⟨⟨v19, z⟩, q, h⟩ := ho_bd h
          refine hw_ci hS (hp_runV (As := [.int x2]) (rest := [.int x1, .ref r17]) X hP hS hl.1 LX0 (ho_is_s hs) kX3_166 ⟨m2_210, m2_211⟩ (c_X0_letter l G fu r18 x2 _ _ _ q) rfl (Nat.le_of_ble_eq_true rfl) ⟨⟨Nat.le_of_ble_eq_true rfl, Nat.le_of_ble_eq_true rfl⟩, Nat.le_of_ble_eq_true rfl, Nat.le_of_ble_eq_true rfl⟩ dX3_isCrossRelation_74) (fun H locs hP hS => ?_)
          refine lv_aload_n hx hb dX3_isCrossRelation_77 rfl (lv_at hl 0 rfl) ?_
          obtain ⟨r20, q, h⟩ := ho_bd h
          refine hw_gr X hP LX3 fX3_25 rfl q dX3_isCrossRelation_78 ?_
          obtain ⟨r21, q, h⟩ := ho_bd h
          refine hw_gr X hP LX0 fX3_169 rfl q dX3_isCrossRelation_81 ?_
          refine lv_iload_n hx hb dX3_isCrossRelation_84 rfl (lv_at hl 2 rfl) ?_
          obtain ⟨v22, q, h⟩ := ho_bd h
          refine hw_li X hP q dX3_isCrossRelation_85 ?_
          obtain ⟨_, hs, h⟩ := ho_bd h
          obtain ⟨⟨v23, z⟩, q, h⟩ := ho_bd h
          refine hw_ci hS (hp_runV (As := [.int x1, .int v19, .int v22]) (rest := []) X hP hS hl.1 LX0 (ho_is_s hs) kX3_172 ⟨m2_206, m2_207⟩ (c_X0_isNoteOf l G fu r17 x1 v19 v22 _ _ _ q) rfl (Nat.le_of_ble_eq_true rfl) ⟨⟨Nat.le_of_ble_eq_true rfl, Nat.le_of_ble_eq_true rfl⟩, Nat.le_of_ble_eq_true rfl, Nat.le_of_ble_eq_true rfl⟩ dX3_isCrossRelation_86) (fun H locs hP hS => ?_)
          refine lv_if_ne (tgt := 96) hx hb dX3_isCrossRelation_89 (by decide) (fun hc => ?_) (fun hc => ?_)
          · replace h := ho_in hc h
            exact B96 z _ _ _ h hP hS (lv_sub hl [0, 1, 2] rfl)
          · replace h := ho_ip hc h
            refine lv_iconst (v := 1) hx hb dX3_isCrossRelation_92 (by decide) ?_
            refine lv_goto (tgt := 97) hx hb dX3_isCrossRelation_93 (by decide) ?_
            exact B97 1 z _ _ _ h hP hS (lv_sub hl [0, 1, 2] rfl)
