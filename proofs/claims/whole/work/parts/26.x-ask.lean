def f_X2_bitAfter_B34 (fu : Nat) (x0 : Int32) (x1 : Int32) (z : hp_S) : Option (Int32 × hp_S) :=
  some (0, z)
def f_X2_bitAfter_B28 (fu : Nat) (x0 : Int32) (x1 : Int32) (ag : Int32 → Int32 → hp_S → Option (Int32 × hp_S)) (kk : hp_S → Option (Int32 × hp_S)) (w2 : Int32) (w3 : Int32) (z : hp_S) : Option (Int32 × hp_S) :=
  (ho_id (w3 + 1)).bind fun v1 =>
  ag w2 v1 z
def f_X2_bitAfter_L4 (fu : Nat) (x0 : Int32) (x1 : Int32) (kk : hp_S → Option (Int32 × hp_S)) : Nat → Int32 → Int32 → hp_S → Option (Int32 × hp_S)
  | 0, _, _, _ => none
  | n + 1, w2, w3, z =>
    if 25 ≤ w3 then (
      kk  z
    ) else (
      if ((x0 >>> (w3 &&& 31)) &&& 1) = 1 then (
        if w2 = 0 then (
          some (w3, z)
        ) else (
          (ho_id (w2 + (-1))).bind fun v2 =>
          f_X2_bitAfter_B28 fu x0 x1 (f_X2_bitAfter_L4 fu x0 x1 kk n) kk v2 w3 z
        )
      ) else (
        f_X2_bitAfter_B28 fu x0 x1 (f_X2_bitAfter_L4 fu x0 x1 kk n) kk w2 w3 z
      )
    )
def f_X2_bitAfter (fu : Nat) (x0 : Int32) (x1 : Int32) (z : hp_S) : Option (Int32 × hp_S) :=
  f_X2_bitAfter_L4 fu x0 x1 (f_X2_bitAfter_B34 fu x0 x1) fu x1 0 z
set_option maxHeartbeats 4000000 in
set_option maxRecDepth 100000 in
theorem c_X2_bitAfter (l : Launch) (G : hp_G) (fu : Nat) (x0 : Int32) (x1 : Int32) (z : hp_S) (rq : Int32) (zq : hp_S) (h : f_X2_bitAfter fu x0 x1 z = some (rq, zq)) : hp_M l G yX2_bitAfter cX2_bitAfter 4 (some .int) 0 0 0 0 [.int x0, .int x1] z (hp_Qi G rq zq) := by
  refine hp_M.of (by decide) (Nat.le_of_ble_eq_true rfl) ?_
  intro p e s m below meth c X hr hlocks hnm hP hS ls hl
  have X : hp_C G cX2_bitAfter RX2 4 p s m c := X
  have hl : lv_has ls 4 [(0, .int x0), (1, .int x1)] := hl
  have hx := X.1
  have hb := X.2.1
  have B34 : ∀ (z : hp_S) (H : Heap) (locs : List Loc) (ls : Array Slot), f_X2_bitAfter_B34 fu x0 x1 z = some (rq, zq) → hp_P G z H → va_S (hp_A G) s.heap H locs → lv_has ls 4 [(0, .int x0), (1, .int x1)] → W p l e (hp_rm 0 0 0 0) s m [.int x0, .int x1].toArray below meth c H locs 0 0 (MQ below (hp_Qi G rq zq) [.int x0, .int x1].toArray s 0 0 (hp_A G)) (F0 m 34 ls []) := by
    intro z H locs ls h hP hS hl
    unfold f_X2_bitAfter_B34 at h
    refine lv_iconst (v := 0) hx hb dX2_bitAfter_34 (by decide) ?_
    exact hw_iret X hP hS hr hlocks h dX2_bitAfter_35
  have L4 : ∀ (n4 : Nat) (w2 : Int32) (w3 : Int32) (z : hp_S) (H : Heap) (locs : List Loc) (ls : Array Slot), f_X2_bitAfter_L4 fu x0 x1 (f_X2_bitAfter_B34 fu x0 x1) n4 w2 w3 z = some (rq, zq) → hp_P G z H → va_S (hp_A G) s.heap H locs → lv_has ls 4 [(0, .int x0), (1, .int x1), (2, .int w2), (3, .int w3)] → W p l e (hp_rm 0 0 0 0) s m [.int x0, .int x1].toArray below meth c H locs 0 0 (MQ below (hp_Qi G rq zq) [.int x0, .int x1].toArray s 0 0 (hp_A G)) (F0 m 4 ls []) := by
    intro n4
    induction n4 with
    | zero =>
      intro w2 w3 z H locs ls h
      exact nomatch (h : (none : Option (Int32 × hp_S)) = some (rq, zq))
    | succ n4 ih4 =>
      have B28 : ∀ (w2 : Int32) (w3 : Int32) (z : hp_S) (H : Heap) (locs : List Loc) (ls : Array Slot), f_X2_bitAfter_B28 fu x0 x1 (f_X2_bitAfter_L4 fu x0 x1 (f_X2_bitAfter_B34 fu x0 x1) n4) (f_X2_bitAfter_B34 fu x0 x1) w2 w3 z = some (rq, zq) → hp_P G z H → va_S (hp_A G) s.heap H locs → lv_has ls 4 [(0, .int x0), (1, .int x1), (2, .int w2), (3, .int w3)] → W p l e (hp_rm 0 0 0 0) s m [.int x0, .int x1].toArray below meth c H locs 0 0 (MQ below (hp_Qi G rq zq) [.int x0, .int x1].toArray s 0 0 (hp_A G)) (F0 m 28 ls []) := by
        intro w2 w3 z H locs ls h hP hS hl
        unfold f_X2_bitAfter_B28 at h
        obtain ⟨v1, q, h⟩ := ho_bd h
        refine lv_iinc (v := v1) (lv' := [(3, .int v1), (0, .int x0), (1, .int x1), (2, .int w2)]) hx hb dX2_bitAfter_28 hl (k := 3) rfl (Option.some.inj q) (by decide) rfl (fun ls hl => ?_)
        refine lv_goto (tgt := 4) hx hb dX2_bitAfter_31 (by decide) ?_
        exact ih4 w2 v1 z _ _ _ h hP hS (lv_sub hl [1, 2, 3, 0] rfl)
      intro w2 w3 z H locs ls h hP hS hl
      rw [f_X2_bitAfter_L4] at h
      refine lv_iload_n hx hb dX2_bitAfter_4 rfl (lv_at hl 3 rfl) ?_
      refine lv_bipush (v := 25) hx hb dX2_bitAfter_5 (by decide) ?_
      refine lv_icmp_ge (tgt := 34) hx hb dX2_bitAfter_7 (by decide) (fun hc => ?_) (fun hc => ?_)
      · replace h := ho_ip hc h
        exact B34 z _ _ _ h hP hS (lv_sub hl [0, 1] rfl)
      · replace h := ho_in hc h
        refine lv_iload_n hx hb dX2_bitAfter_10 rfl (lv_at hl 0 rfl) ?_
        refine lv_iload_n hx hb dX2_bitAfter_11 rfl (lv_at hl 3 rfl) ?_
        refine lv_ishr hx hb dX2_bitAfter_12 ?_
        refine lv_iconst (v := 1) hx hb dX2_bitAfter_13 (by decide) ?_
        refine lv_iand hx hb dX2_bitAfter_14 ?_
        refine lv_iconst (v := 1) hx hb dX2_bitAfter_15 (by decide) ?_
        refine lv_icmp_ne (tgt := 28) hx hb dX2_bitAfter_16 (by decide) (fun hc => ?_) (fun hc => ?_)
        · replace h := ho_in hc h
          exact B28 w2 w3 z _ _ _ h hP hS (lv_sub hl [0, 1, 2, 3] rfl)
        · replace h := ho_ip hc h
          refine lv_iload_n hx hb dX2_bitAfter_19 rfl (lv_at hl 2 rfl) ?_
          refine lv_if_ne (tgt := 25) hx hb dX2_bitAfter_20 (by decide) (fun hc => ?_) (fun hc => ?_)
          · replace h := ho_in hc h
            obtain ⟨v2, q, h⟩ := ho_bd h
            refine lv_iinc (v := v2) (lv' := [(2, .int v2), (0, .int x0), (1, .int x1), (3, .int w3)]) hx hb dX2_bitAfter_25 hl (k := 2) rfl (Option.some.inj q) (by decide) rfl (fun ls hl => ?_)
            exact B28 v2 w3 z _ _ _ h hP hS (lv_sub hl [1, 2, 0, 3] rfl)
          · replace h := ho_ip hc h
            refine lv_iload_n hx hb dX2_bitAfter_23 rfl (lv_at hl 3 rfl) ?_
            exact hw_iret X hP hS hr hlocks h dX2_bitAfter_24
  unfold f_X2_bitAfter at h
  refine lv_iload_n hx hb dX2_bitAfter_0 rfl (lv_at hl 1 rfl) ?_
  refine lv_istore_n (lv' := [(2, .int x1), (0, .int x0), (1, .int x1)]) hx hb dX2_bitAfter_1 rfl hl (by decide) rfl (fun ls hl => ?_)
  refine lv_iconst (v := 0) hx hb dX2_bitAfter_2 (by decide) ?_
  refine lv_istore_n (lv' := [(3, .int 0), (2, .int x1), (0, .int x0), (1, .int x1)]) hx hb dX2_bitAfter_3 rfl hl (by decide) rfl (fun ls hl => ?_)
  exact L4 fu x1 0 z _ _ _ h hP hS (lv_sub hl [2, 3, 1, 0] rfl)
def f_X2_tellOfCell_B87 (fu : Nat) (a0 : Nat) (x1 : Int32) (x2 : Int32) (x3 : Int32) (s0 : Int32) (z : hp_S) : Option (Int32 × hp_S) :=
  some (s0, z)
def f_X2_tellOfCell (fu : Nat) (a0 : Nat) (x1 : Int32) (x2 : Int32) (x3 : Int32) (z : hp_S) : Option (Int32 × hp_S) :=
  (ho_gr 2 a0 0 z).bind fun r1 =>
  (ho_li 1 r1 x1 z).bind fun v2 =>
  (f_X2_bitAfter fu v2 x2 z).bind fun ⟨v3, z⟩ =>
  (ho_dv v3 5).bind fun v4 =>
  (ho_rm v3 5).bind fun v5 =>
  if x3 = 0 then (
    (ho_rm x1 14).bind fun v6 =>
    some (v6, z)
  ) else (
  if x3 = 1 then (
    (ho_gr 2 a0 1 z).bind fun r7 =>
    (ho_dv x1 14).bind fun v8 =>
    (ho_li 1 r7 v8 z).bind fun v9 =>
    some (v9, z)
  ) else (
  if x3 = 2 then (
    some (v4, z)
  ) else (
  if x3 = 3 then (
    if v4 = v5 then (
      f_X2_tellOfCell_B87 fu a0 x1 x2 x3 (-1) z
    ) else (
      f_X2_tellOfCell_B87 fu a0 x1 x2 x3 v5 z
    )
  ) else (
    (ho_dv x1 14).bind fun v10 =>
    some (v10, z)
  ))))
set_option maxHeartbeats 4000000 in
set_option maxRecDepth 100000 in
theorem c_X2_tellOfCell (l : Launch) (G : hp_G) (fu : Nat) (a0 : Nat) (x1 : Int32) (x2 : Int32) (x3 : Int32) (z : hp_S) (rq : Int32) (zq : hp_S) (h : f_X2_tellOfCell fu a0 x1 x2 x3 z = some (rq, zq)) : hp_M l G yX2_tellOfCell cX2_tellOfCell 7 (some .int) 1 23 0 0 [.ref a0, .int x1, .int x2, .int x3] z (hp_Qi G rq zq) := by
  refine hp_M.of (by decide) (Nat.le_of_ble_eq_true rfl) ?_
  intro p e s m below meth c X hr hlocks hnm hP hS ls hl
  have X : hp_C G cX2_tellOfCell RX2 7 p s m c := X
  have hl : lv_has ls 7 [(0, .ref a0), (1, .int x1), (2, .int x2), (3, .int x3)] := hl
  have hx := X.1
  have hb := X.2.1
  have B87 : ∀ (s0 : Int32) (z : hp_S) (H : Heap) (locs : List Loc) (ls : Array Slot), f_X2_tellOfCell_B87 fu a0 x1 x2 x3 s0 z = some (rq, zq) → hp_P G z H → va_S (hp_A G) s.heap H locs → lv_has ls 7 [(0, .ref a0), (1, .int x1), (2, .int x2), (3, .int x3)] → W p l e (hp_rm 1 23 0 0) s m [.ref a0, .int x1, .int x2, .int x3].toArray below meth c H locs 0 0 (MQ below (hp_Qi G rq zq) [.ref a0, .int x1, .int x2, .int x3].toArray s 0 0 (hp_A G)) (F0 m 87 ls [.int s0]) := by
    intro s0 z H locs ls h hP hS hl
    unfold f_X2_tellOfCell_B87 at h
    exact hw_iret X hP hS hr hlocks h dX2_tellOfCell_87
  unfold f_X2_tellOfCell at h
  refine lv_aload_n hx hb dX2_tellOfCell_0 rfl (lv_at hl 0 rfl) ?_
  obtain ⟨r1, q, h⟩ := ho_bd h
  refine hw_gr X hP LX2 fX2_9 rfl q dX2_tellOfCell_1 ?_
  refine lv_iload_n hx hb dX2_tellOfCell_4 rfl (lv_at hl 1 rfl) ?_
  obtain ⟨v2, q, h⟩ := ho_bd h
  refine hw_li X hP q dX2_tellOfCell_5 ?_
  refine lv_iload_n hx hb dX2_tellOfCell_6 rfl (lv_at hl 2 rfl) ?_
  obtain ⟨⟨v3, z⟩, q, h⟩ := ho_bd h
  refine hw_ci hS (hp_runS (As := [.int v2, .int x2]) (rest := []) X hP hS hl.1 kX2_62 m3_54 (c_X2_bitAfter l G fu v2 x2 _ _ _ q) rfl (Nat.le_of_ble_eq_true rfl) ⟨⟨Nat.le_of_ble_eq_true rfl, Nat.le_of_ble_eq_true rfl⟩, Nat.le_of_ble_eq_true rfl, Nat.le_of_ble_eq_true rfl⟩ dX2_tellOfCell_7) (fun H locs hP hS => ?_)
  refine lv_istore (lv' := [(4, .int v3), (0, .ref a0), (1, .int x1), (2, .int x2), (3, .int x3)]) hx hb dX2_tellOfCell_10 hl (by decide) rfl (fun ls hl => ?_)
  refine lv_iload hx hb dX2_tellOfCell_12 (lv_at hl 0 rfl) ?_
  refine lv_iconst (v := 5) hx hb dX2_tellOfCell_14 (by decide) ?_
  obtain ⟨v4, q, h⟩ := ho_bd h
  refine hw_dv X q dX2_tellOfCell_15 ?_
  refine lv_istore (lv' := [(5, .int v4), (4, .int v3), (0, .ref a0), (1, .int x1), (2, .int x2), (3, .int x3)]) hx hb dX2_tellOfCell_16 hl (by decide) rfl (fun ls hl => ?_)
  refine lv_iload hx hb dX2_tellOfCell_18 (lv_at hl 1 rfl) ?_
  refine lv_iconst (v := 5) hx hb dX2_tellOfCell_20 (by decide) ?_
  obtain ⟨v5, q, h⟩ := ho_bd h
  refine hw_rm X q dX2_tellOfCell_21 ?_
  refine lv_istore (lv' := [(6, .int v5), (5, .int v4), (4, .int v3), (0, .ref a0), (1, .int x1), (2, .int x2), (3, .int x3)]) hx hb dX2_tellOfCell_22 hl (by decide) rfl (fun ls hl => ?_)
  refine lv_iload_n hx hb dX2_tellOfCell_24 rfl (lv_at hl 6 rfl) ?_
  by_cases hc0 : x3 = 0
  · replace h := ho_ip hc0 h
    refine lv_tableIn (tgt := 56) hx hb dX2_tellOfCell_25 (by rw [hc0]; decide) (by rw [hc0]; decide) (by rw [hc0]; rfl) (by decide) ?_
    refine lv_iload_n hx hb dX2_tellOfCell_56 rfl (lv_at hl 4 rfl) ?_
    refine lv_bipush (v := 14) hx hb dX2_tellOfCell_57 (by decide) ?_
    obtain ⟨v6, q, h⟩ := ho_bd h
    refine hw_rm X q dX2_tellOfCell_59 ?_
    exact hw_iret X hP hS hr hlocks h dX2_tellOfCell_60
  replace h := ho_in hc0 h
  by_cases hc1 : x3 = 1
  · replace h := ho_ip hc1 h
    refine lv_tableIn (tgt := 61) hx hb dX2_tellOfCell_25 (by rw [hc1]; decide) (by rw [hc1]; decide) (by rw [hc1]; rfl) (by decide) ?_
    refine lv_aload_n hx hb dX2_tellOfCell_61 rfl (lv_at hl 3 rfl) ?_
    obtain ⟨r7, q, h⟩ := ho_bd h
    refine hw_gr X hP LX2 fX2_15 rfl q dX2_tellOfCell_62 ?_
    refine lv_iload_n hx hb dX2_tellOfCell_65 rfl (lv_at hl 4 rfl) ?_
    refine lv_bipush (v := 14) hx hb dX2_tellOfCell_66 (by decide) ?_
    obtain ⟨v8, q, h⟩ := ho_bd h
    refine hw_dv X q dX2_tellOfCell_68 ?_
    obtain ⟨v9, q, h⟩ := ho_bd h
    refine hw_li X hP q dX2_tellOfCell_69 ?_
    exact hw_iret X hP hS hr hlocks h dX2_tellOfCell_70
  replace h := ho_in hc1 h
  by_cases hc2 : x3 = 2
  · replace h := ho_ip hc2 h
    refine lv_tableIn (tgt := 71) hx hb dX2_tellOfCell_25 (by rw [hc2]; decide) (by rw [hc2]; decide) (by rw [hc2]; rfl) (by decide) ?_
    refine lv_iload hx hb dX2_tellOfCell_71 (lv_at hl 1 rfl) ?_
    exact hw_iret X hP hS hr hlocks h dX2_tellOfCell_73
  replace h := ho_in hc2 h
  by_cases hc3 : x3 = 3
  · replace h := ho_ip hc3 h
    refine lv_tableIn (tgt := 74) hx hb dX2_tellOfCell_25 (by rw [hc3]; decide) (by rw [hc3]; decide) (by rw [hc3]; rfl) (by decide) ?_
    refine lv_iload hx hb dX2_tellOfCell_74 (lv_at hl 1 rfl) ?_
    refine lv_iload hx hb dX2_tellOfCell_76 (lv_at hl 0 rfl) ?_
    refine lv_icmp_ne (tgt := 85) hx hb dX2_tellOfCell_78 (by decide) (fun hc => ?_) (fun hc => ?_)
    · replace h := ho_in hc h
      refine lv_iload hx hb dX2_tellOfCell_85 (lv_at hl 0 rfl) ?_
      exact B87 v5 z _ _ _ h hP hS (lv_sub hl [3, 4, 5, 6] rfl)
    · replace h := ho_ip hc h
      refine lv_iconst (v := (-1)) hx hb dX2_tellOfCell_81 (by decide) ?_
      refine lv_goto (tgt := 87) hx hb dX2_tellOfCell_82 (by decide) ?_
      exact B87 (-1) z _ _ _ h hP hS (lv_sub hl [3, 4, 5, 6] rfl)
  replace h := ho_in hc3 h
  refine lv_tableOut (tgt := 88) hx hb dX2_tellOfCell_25 (by have u0 := ho_ne (n := 0) 0 rfl hc0; have u1 := ho_ne (n := 1) 1 rfl hc1; have u2 := ho_ne (n := 2) 2 rfl hc2; have u3 := ho_ne (n := 3) 3 rfl hc3; omega) (by decide) ?_
  refine lv_iload_n hx hb dX2_tellOfCell_88 rfl (lv_at hl 4 rfl) ?_
  refine lv_bipush (v := 14) hx hb dX2_tellOfCell_89 (by decide) ?_
  obtain ⟨v10, q, h⟩ := ho_bd h
  refine hw_dv X q dX2_tellOfCell_91 ?_
  exact hw_iret X hP hS hr hlocks h dX2_tellOfCell_92
def f_X2_tell_B55 (fu : Nat) (a0 : Nat) (x1 : Int32) (x2 : Int32) (z : hp_S) : Option (Int32 × hp_S) :=
  some ((-2), z)
def f_X2_tell_L5 (fu : Nat) (a0 : Nat) (x1 : Int32) (x2 : Int32) (kk : hp_S → Option (Int32 × hp_S)) : Nat → Int32 → Int32 → hp_S → Option (Int32 × hp_S)
  | 0, _, _, _ => none
  | n + 1, w3, w4, z =>
    (ho_gi 2 a0 2 z).bind fun v1 =>
    if (v1 * 14) ≤ w4 then (
      kk  z
    ) else (
      (ho_gr 2 a0 0 z).bind fun r2 =>
      (ho_li 1 r2 w4 z).bind fun v3 =>
      (f_J6_bitCount fu v3 z).bind fun ⟨v4, z⟩ =>
      if v4 ≤ w3 then (
        (ho_id (w3 - v4)).bind fun v5 =>
        (ho_id (w4 + 1)).bind fun v6 =>
        (f_X2_tell_L5 fu a0 x1 x2 kk n) v5 v6 z
      ) else (
        (ho_is 2 a0 z).bind fun _ =>
        (f_X2_tellOfCell fu a0 w4 w3 x2 z).bind fun ⟨v7, z⟩ =>
        some (v7, z)
      )
    )
def f_X2_tell (fu : Nat) (a0 : Nat) (x1 : Int32) (x2 : Int32) (z : hp_S) : Option (Int32 × hp_S) :=
  f_X2_tell_L5 fu a0 x1 x2 (f_X2_tell_B55 fu a0 x1 x2) fu x1 0 z
set_option maxHeartbeats 4000000 in
set_option maxRecDepth 100000 in
theorem c_X2_tell (l : Launch) (G : hp_G) (fu : Nat) (a0 : Nat) (x1 : Int32) (x2 : Int32) (z : hp_S) (rq : Int32) (zq : hp_S) (h : f_X2_tell fu a0 x1 x2 z = some (rq, zq)) : hp_M l G yX2_tell cX2_tell 6 (some .int) 2 49 0 0 [.ref a0, .int x1, .int x2] z (hp_Qi G rq zq) := by
  refine hp_M.of (by decide) (Nat.le_of_ble_eq_true rfl) ?_
  intro p e s m below meth c X hr hlocks hnm hP hS ls hl
  have X : hp_C G cX2_tell RX2 6 p s m c := X
  have hl : lv_has ls 6 [(0, .ref a0), (1, .int x1), (2, .int x2)] := hl
  have hx := X.1
  have hb := X.2.1
  have B55 : ∀ (z : hp_S) (H : Heap) (locs : List Loc) (ls : Array Slot), f_X2_tell_B55 fu a0 x1 x2 z = some (rq, zq) → hp_P G z H → va_S (hp_A G) s.heap H locs → lv_has ls 6 [(0, .ref a0), (1, .int x1), (2, .int x2)] → W p l e (hp_rm 2 49 0 0) s m [.ref a0, .int x1, .int x2].toArray below meth c H locs 0 0 (MQ below (hp_Qi G rq zq) [.ref a0, .int x1, .int x2].toArray s 0 0 (hp_A G)) (F0 m 55 ls []) := by
    intro z H locs ls h hP hS hl
    unfold f_X2_tell_B55 at h
    refine lv_bipush (v := (-2)) hx hb dX2_tell_55 (by decide) ?_
    exact hw_iret X hP hS hr hlocks h dX2_tell_57
  have L5 : ∀ (n5 : Nat) (w3 : Int32) (w4 : Int32) (z : hp_S) (H : Heap) (locs : List Loc) (ls : Array Slot), f_X2_tell_L5 fu a0 x1 x2 (f_X2_tell_B55 fu a0 x1 x2) n5 w3 w4 z = some (rq, zq) → hp_P G z H → va_S (hp_A G) s.heap H locs → lv_has ls 6 [(0, .ref a0), (1, .int x1), (2, .int x2), (3, .int w3), (4, .int w4)] → W p l e (hp_rm 2 49 0 0) s m [.ref a0, .int x1, .int x2].toArray below meth c H locs 0 0 (MQ below (hp_Qi G rq zq) [.ref a0, .int x1, .int x2].toArray s 0 0 (hp_A G)) (F0 m 5 ls []) := by
    intro n5
    induction n5 with
    | zero =>
      intro w3 w4 z H locs ls h
      exact nomatch (h : (none : Option (Int32 × hp_S)) = some (rq, zq))
    | succ n5 ih5 =>
      intro w3 w4 z H locs ls h hP hS hl
      rw [f_X2_tell_L5] at h
      refine lv_iload hx hb dX2_tell_5 (lv_at hl 4 rfl) ?_
      refine lv_aload_n hx hb dX2_tell_7 rfl (lv_at hl 0 rfl) ?_
      obtain ⟨v1, q, h⟩ := ho_bd h
      refine hw_gi X hP LX2 fX2_27 rfl q dX2_tell_8 ?_
      refine lv_bipush (v := 14) hx hb dX2_tell_11 (by decide) ?_
      refine lv_imul hx hb dX2_tell_13 ?_
      refine lv_icmp_ge (tgt := 55) hx hb dX2_tell_14 (by decide) (fun hc => ?_) (fun hc => ?_)
      · replace h := ho_ip hc h
        exact B55 z _ _ _ h hP hS (lv_sub hl [0, 1, 2] rfl)
      · replace h := ho_in hc h
        refine lv_aload_n hx hb dX2_tell_17 rfl (lv_at hl 0 rfl) ?_
        obtain ⟨r2, q, h⟩ := ho_bd h
        refine hw_gr X hP LX2 fX2_9 rfl q dX2_tell_18 ?_
        refine lv_iload hx hb dX2_tell_21 (lv_at hl 4 rfl) ?_
        obtain ⟨v3, q, h⟩ := ho_bd h
        refine hw_li X hP q dX2_tell_23 ?_
        obtain ⟨⟨v4, z⟩, q, h⟩ := ho_bd h
        refine hw_ci hS (hp_runS (As := [.int v3]) (rest := []) X hP hS hl.1 kX2_52 m2_73 (c_J6_bitCount l G fu v3 _ _ _ q) rfl (Nat.le_of_ble_eq_true rfl) ⟨⟨Nat.le_of_ble_eq_true rfl, Nat.le_of_ble_eq_true rfl⟩, Nat.le_of_ble_eq_true rfl, Nat.le_of_ble_eq_true rfl⟩ dX2_tell_24) (fun H locs hP hS => ?_)
        refine lv_istore (lv' := [(5, .int v4), (0, .ref a0), (1, .int x1), (2, .int x2), (3, .int w3), (4, .int w4)]) hx hb dX2_tell_27 hl (by decide) rfl (fun ls hl => ?_)
        refine lv_iload_n hx hb dX2_tell_29 rfl (lv_at hl 4 rfl) ?_
        refine lv_iload hx hb dX2_tell_30 (lv_at hl 0 rfl) ?_
        refine lv_icmp_ge (tgt := 44) hx hb dX2_tell_32 (by decide) (fun hc => ?_) (fun hc => ?_)
        · replace h := ho_ip hc h
          refine lv_iload_n hx hb dX2_tell_44 rfl (lv_at hl 4 rfl) ?_
          refine lv_iload hx hb dX2_tell_45 (lv_at hl 0 rfl) ?_
          refine lv_isub hx hb dX2_tell_47 ?_
          obtain ⟨v5, q, h⟩ := ho_bd h
          refine hw_id q ?_
          refine lv_istore_n (lv' := [(3, .int v5), (5, .int v4), (0, .ref a0), (1, .int x1), (2, .int x2), (4, .int w4)]) hx hb dX2_tell_48 rfl hl (by decide) rfl (fun ls hl => ?_)
          obtain ⟨v6, q, h⟩ := ho_bd h
          refine lv_iinc (v := v6) (lv' := [(4, .int v6), (3, .int v5), (5, .int v4), (0, .ref a0), (1, .int x1), (2, .int x2)]) hx hb dX2_tell_49 hl (k := 5) rfl (Option.some.inj q) (by decide) rfl (fun ls hl => ?_)
          refine lv_goto (tgt := 5) hx hb dX2_tell_52 (by decide) ?_
          exact ih5 v5 v6 z _ _ _ h hP hS (lv_sub hl [3, 4, 5, 1, 0] rfl)
        · replace h := ho_in hc h
          refine lv_aload_n hx hb dX2_tell_35 rfl (lv_at hl 1 rfl) ?_
          refine lv_iload hx hb dX2_tell_36 (lv_at hl 5 rfl) ?_
          refine lv_iload_n hx hb dX2_tell_38 rfl (lv_at hl 4 rfl) ?_
          refine lv_iload_n hx hb dX2_tell_39 rfl (lv_at hl 3 rfl) ?_
          obtain ⟨_, hs, h⟩ := ho_bd h
          obtain ⟨⟨v7, z⟩, q, h⟩ := ho_bd h
          refine hw_ci hS (hp_runV (As := [.int w4, .int w3, .int x2]) (rest := []) X hP hS hl.1 LX2 (ho_is_s hs) kX2_58 ⟨m3_51, mp_18⟩ (c_X2_tellOfCell l G fu a0 w4 w3 x2 _ _ _ q) rfl (Nat.le_of_ble_eq_true rfl) ⟨⟨Nat.le_of_ble_eq_true rfl, Nat.le_of_ble_eq_true rfl⟩, Nat.le_of_ble_eq_true rfl, Nat.le_of_ble_eq_true rfl⟩ dX2_tell_40) (fun H locs hP hS => ?_)
          exact hw_iret X hP hS hr hlocks h dX2_tell_43
  unfold f_X2_tell at h
  refine lv_iload_n hx hb dX2_tell_0 rfl (lv_at hl 1 rfl) ?_
  refine lv_istore_n (lv' := [(3, .int x1), (0, .ref a0), (1, .int x1), (2, .int x2)]) hx hb dX2_tell_1 rfl hl (by decide) rfl (fun ls hl => ?_)
  refine lv_iconst (v := 0) hx hb dX2_tell_2 (by decide) ?_
  refine lv_istore (lv' := [(4, .int 0), (3, .int x1), (0, .ref a0), (1, .int x1), (2, .int x2)]) hx hb dX2_tell_3 hl (by decide) rfl (fun ls hl => ?_)
  exact L5 fu x1 0 z _ _ _ h hP hS (lv_sub hl [2, 3, 4, 1, 0] rfl)
def f_X6_fault_B31 (fu : Nat) (a0 : Nat) (x1 : Int32) (x2 : Int32) (z : hp_S) : Option (Int32 × hp_S) :=
  some ((-2), z)
def f_X6_fault (fu : Nat) (a0 : Nat) (x1 : Int32) (x2 : Int32) (z : hp_S) : Option (Int32 × hp_S) :=
  (ho_gr 6 a0 4 z).bind fun r1 =>
  (ho_gr 3 r1 0 z).bind fun r2 =>
  (ho_gi 2 r2 4 z).bind fun v3 =>
  (f_X6_within fu x1 0 (v3 - 1) z).bind fun ⟨v4, z⟩ =>
  if v4 = 0 then (
    f_X6_fault_B31 fu a0 x1 x2  z
  ) else (
    (f_X6_within fu x2 0 4 z).bind fun ⟨v5, z⟩ =>
    if v5 = 0 then (
      f_X6_fault_B31 fu a0 x1 x2  z
    ) else (
      (ho_is 2 r2 z).bind fun _ =>
      (f_X2_tell fu r2 x1 x2 z).bind fun ⟨v6, z⟩ =>
      some (v6, z)
    )
  )
set_option maxHeartbeats 4000000 in
set_option maxRecDepth 100000 in
theorem c_X6_fault (l : Launch) (G : hp_G) (fu : Nat) (a0 : Nat) (x1 : Int32) (x2 : Int32) (z : hp_S) (rq : Int32) (zq : hp_S) (h : f_X6_fault fu a0 x1 x2 z = some (rq, zq)) : hp_M l G yX6_fault cX6_fault 4 (some .int) 3 74 0 0 [.ref a0, .int x1, .int x2] z (hp_Qi G rq zq) := by
  refine hp_M.of (by decide) (Nat.le_of_ble_eq_true rfl) ?_
  intro p e s m below meth c X hr hlocks hnm hP hS ls hl
  have X : hp_C G cX6_fault RX6 4 p s m c := X
  have hl : lv_has ls 4 [(0, .ref a0), (1, .int x1), (2, .int x2)] := hl
  have hx := X.1
  have hb := X.2.1
  have B31 : ∀ (z : hp_S) (H : Heap) (locs : List Loc) (ls : Array Slot), f_X6_fault_B31 fu a0 x1 x2 z = some (rq, zq) → hp_P G z H → va_S (hp_A G) s.heap H locs → lv_has ls 4 [(0, .ref a0), (1, .int x1), (2, .int x2)] → W p l e (hp_rm 3 74 0 0) s m [.ref a0, .int x1, .int x2].toArray below meth c H locs 0 0 (MQ below (hp_Qi G rq zq) [.ref a0, .int x1, .int x2].toArray s 0 0 (hp_A G)) (F0 m 31 ls []) := by
    intro z H locs ls h hP hS hl
    unfold f_X6_fault_B31 at h
    refine lv_bipush (v := (-2)) hx hb dX6_fault_31 (by decide) ?_
    exact hw_iret X hP hS hr hlocks h dX6_fault_33
  unfold f_X6_fault at h
  refine lv_aload_n hx hb dX6_fault_0 rfl (lv_at hl 0 rfl) ?_
  obtain ⟨r1, q, h⟩ := ho_bd h
  refine hw_gr X hP LX6 fX6_47 rfl q dX6_fault_1 ?_
  obtain ⟨r2, q, h⟩ := ho_bd h
  refine hw_gr X hP LX3 fX6_73 rfl q dX6_fault_4 ?_
  refine lv_astore_n (lv' := [(3, .ref r2), (0, .ref a0), (1, .int x1), (2, .int x2)]) hx hb dX6_fault_7 rfl hl (by decide) rfl (fun ls hl => ?_)
  refine lv_iload_n hx hb dX6_fault_8 rfl (lv_at hl 2 rfl) ?_
  refine lv_iconst (v := 0) hx hb dX6_fault_9 (by decide) ?_
  refine lv_aload_n hx hb dX6_fault_10 rfl (lv_at hl 0 rfl) ?_
  obtain ⟨v3, q, h⟩ := ho_bd h
  refine hw_gi X hP LX2 fX6_158 rfl q dX6_fault_11 ?_
  refine lv_iconst (v := 1) hx hb dX6_fault_14 (by decide) ?_
  refine lv_isub hx hb dX6_fault_15 ?_
  obtain ⟨⟨v4, z⟩, q, h⟩ := ho_bd h
  refine hw_ci hS (hp_runS (As := [.int x1, .int 0, .int (v3 - 1)]) (rest := []) X hP hS hl.1 kX6_97 m2_35 (c_X6_within l G fu x1 0 (v3 - 1) _ _ _ q) rfl (Nat.le_of_ble_eq_true rfl) ⟨⟨Nat.le_of_ble_eq_true rfl, Nat.le_of_ble_eq_true rfl⟩, Nat.le_of_ble_eq_true rfl, Nat.le_of_ble_eq_true rfl⟩ dX6_fault_16) (fun H locs hP hS => ?_)
  refine lv_if_eq (tgt := 31) hx hb dX6_fault_19 (by decide) (fun hc => ?_) (fun hc => ?_)
  · replace h := ho_ip hc h
    exact B31 z _ _ _ h hP hS (lv_sub hl [1, 2, 3] rfl)
  · replace h := ho_in hc h
    refine lv_iload_n hx hb dX6_fault_22 rfl (lv_at hl 3 rfl) ?_
    refine lv_iconst (v := 0) hx hb dX6_fault_23 (by decide) ?_
    refine lv_iconst (v := 4) hx hb dX6_fault_24 (by decide) ?_
    obtain ⟨⟨v5, z⟩, q, h⟩ := ho_bd h
    refine hw_ci hS (hp_runS (As := [.int x2, .int 0, .int 4]) (rest := []) X hP hS hl.1 kX6_97 m2_35 (c_X6_within l G fu x2 0 4 _ _ _ q) rfl (Nat.le_of_ble_eq_true rfl) ⟨⟨Nat.le_of_ble_eq_true rfl, Nat.le_of_ble_eq_true rfl⟩, Nat.le_of_ble_eq_true rfl, Nat.le_of_ble_eq_true rfl⟩ dX6_fault_25) (fun H locs hP hS => ?_)
    refine lv_if_ne (tgt := 34) hx hb dX6_fault_28 (by decide) (fun hc => ?_) (fun hc => ?_)
    · replace h := ho_in hc h
      refine lv_aload_n hx hb dX6_fault_34 rfl (lv_at hl 0 rfl) ?_
      refine lv_iload_n hx hb dX6_fault_35 rfl (lv_at hl 2 rfl) ?_
      refine lv_iload_n hx hb dX6_fault_36 rfl (lv_at hl 3 rfl) ?_
      obtain ⟨_, hs, h⟩ := ho_bd h
      obtain ⟨⟨v6, z⟩, q, h⟩ := ho_bd h
      refine hw_ci hS (hp_runV (As := [.int x1, .int x2]) (rest := []) X hP hS hl.1 LX2 (ho_is_s hs) kX6_161 ⟨m3_46, m3_47⟩ (c_X2_tell l G fu r2 x1 x2 _ _ _ q) rfl (Nat.le_of_ble_eq_true rfl) ⟨⟨Nat.le_of_ble_eq_true rfl, Nat.le_of_ble_eq_true rfl⟩, Nat.le_of_ble_eq_true rfl, Nat.le_of_ble_eq_true rfl⟩ dX6_fault_37) (fun H locs hP hS => ?_)
      exact hw_iret X hP hS hr hlocks h dX6_fault_40
    · replace h := ho_ip hc h
      exact B31 z _ _ _ h hP hS (lv_sub hl [1, 2, 3] rfl)
def f_X6_count_B48 (fu : Nat) (a0 : Nat) (x1 : Int32) (s0 : Int32) (z : hp_S) : Option (Int32 × hp_S) :=
  some (s0, z)
def f_X6_count (fu : Nat) (a0 : Nat) (x1 : Int32) (z : hp_S) : Option (Int32 × hp_S) :=
  (ho_gr 6 a0 4 z).bind fun r1 =>
  (ho_gr 3 r1 0 z).bind fun r2 =>
  (f_X6_isKind fu x1 z).bind fun ⟨v3, z⟩ =>
  if v3 = 0 then (
    if x1 = 14 then (
      (ho_gi 2 r2 4 z).bind fun v5 =>
      some (v5, z)
    ) else (
      if x1 = 15 then (
        (ho_gi 2 r2 5 z).bind fun v4 =>
        f_X6_count_B48 fu a0 x1 v4 z
      ) else (
        f_X6_count_B48 fu a0 x1 (-2) z
      )
    )
  ) else (
    (ho_gr 2 r2 3 z).bind fun r6 =>
    (ho_li 1 r6 x1 z).bind fun v7 =>
    some (v7, z)
  )
set_option maxHeartbeats 4000000 in
set_option maxRecDepth 100000 in
theorem c_X6_count (l : Launch) (G : hp_G) (fu : Nat) (a0 : Nat) (x1 : Int32) (z : hp_S) (rq : Int32) (zq : hp_S) (h : f_X6_count fu a0 x1 z = some (rq, zq)) : hp_M l G yX6_count cX6_count 3 (some .int) 2 42 0 0 [.ref a0, .int x1] z (hp_Qi G rq zq) := by
  refine hp_M.of (by decide) (Nat.le_of_ble_eq_true rfl) ?_
  intro p e s m below meth c X hr hlocks hnm hP hS ls hl
  have X : hp_C G cX6_count RX6 3 p s m c := X
  have hl : lv_has ls 3 [(0, .ref a0), (1, .int x1)] := hl
  have hx := X.1
  have hb := X.2.1
  have B48 : ∀ (s0 : Int32) (z : hp_S) (H : Heap) (locs : List Loc) (ls : Array Slot), f_X6_count_B48 fu a0 x1 s0 z = some (rq, zq) → hp_P G z H → va_S (hp_A G) s.heap H locs → lv_has ls 3 [(0, .ref a0), (1, .int x1)] → W p l e (hp_rm 2 42 0 0) s m [.ref a0, .int x1].toArray below meth c H locs 0 0 (MQ below (hp_Qi G rq zq) [.ref a0, .int x1].toArray s 0 0 (hp_A G)) (F0 m 48 ls [.int s0]) := by
    intro s0 z H locs ls h hP hS hl
    unfold f_X6_count_B48 at h
    exact hw_iret X hP hS hr hlocks h dX6_count_48
  unfold f_X6_count at h
  refine lv_aload_n hx hb dX6_count_0 rfl (lv_at hl 0 rfl) ?_
  obtain ⟨r1, q, h⟩ := ho_bd h
  refine hw_gr X hP LX6 fX6_47 rfl q dX6_count_1 ?_
  obtain ⟨r2, q, h⟩ := ho_bd h
  refine hw_gr X hP LX3 fX6_73 rfl q dX6_count_4 ?_
  refine lv_astore_n (lv' := [(2, .ref r2), (0, .ref a0), (1, .int x1)]) hx hb dX6_count_7 rfl hl (by decide) rfl (fun ls hl => ?_)
  refine lv_iload_n hx hb dX6_count_8 rfl (lv_at hl 2 rfl) ?_
  obtain ⟨⟨v3, z⟩, q, h⟩ := ho_bd h
  refine hw_ci hS (hp_runS (As := [.int x1]) (rest := []) X hP hS hl.1 kX6_109 m2_66 (c_X6_isKind l G fu x1 _ _ _ q) rfl (Nat.le_of_ble_eq_true rfl) ⟨⟨Nat.le_of_ble_eq_true rfl, Nat.le_of_ble_eq_true rfl⟩, Nat.le_of_ble_eq_true rfl, Nat.le_of_ble_eq_true rfl⟩ dX6_count_9) (fun H locs hP hS => ?_)
  refine lv_if_eq (tgt := 22) hx hb dX6_count_12 (by decide) (fun hc => ?_) (fun hc => ?_)
  · replace h := ho_ip hc h
    refine lv_iload_n hx hb dX6_count_22 rfl (lv_at hl 2 rfl) ?_
    refine lv_bipush (v := 14) hx hb dX6_count_23 (by decide) ?_
    refine lv_icmp_ne (tgt := 33) hx hb dX6_count_25 (by decide) (fun hc => ?_) (fun hc => ?_)
    · replace h := ho_in hc h
      refine lv_iload_n hx hb dX6_count_33 rfl (lv_at hl 2 rfl) ?_
      refine lv_bipush (v := 15) hx hb dX6_count_34 (by decide) ?_
      refine lv_icmp_ne (tgt := 46) hx hb dX6_count_36 (by decide) (fun hc => ?_) (fun hc => ?_)
      · replace h := ho_in hc h
        refine lv_bipush (v := (-2)) hx hb dX6_count_46 (by decide) ?_
        exact B48 (-2) z _ _ _ h hP hS (lv_sub hl [1, 2] rfl)
      · replace h := ho_ip hc h
        refine lv_aload_n hx hb dX6_count_39 rfl (lv_at hl 0 rfl) ?_
        obtain ⟨v4, q, h⟩ := ho_bd h
        refine hw_gi X hP LX2 fX6_167 rfl q dX6_count_40 ?_
        refine lv_goto (tgt := 48) hx hb dX6_count_43 (by decide) ?_
        exact B48 v4 z _ _ _ h hP hS (lv_sub hl [1, 2] rfl)
    · replace h := ho_ip hc h
      refine lv_aload_n hx hb dX6_count_28 rfl (lv_at hl 0 rfl) ?_
      obtain ⟨v5, q, h⟩ := ho_bd h
      refine hw_gi X hP LX2 fX6_158 rfl q dX6_count_29 ?_
      exact hw_iret X hP hS hr hlocks h dX6_count_32
  · replace h := ho_in hc h
    refine lv_aload_n hx hb dX6_count_15 rfl (lv_at hl 0 rfl) ?_
    obtain ⟨r6, q, h⟩ := ho_bd h
    refine hw_gr X hP LX2 fX6_164 rfl q dX6_count_16 ?_
    refine lv_iload_n hx hb dX6_count_19 rfl (lv_at hl 2 rfl) ?_
    obtain ⟨v7, q, h⟩ := ho_bd h
    refine hw_li X hP q dX6_count_20 ?_
    exact hw_iret X hP hS hr hlocks h dX6_count_21
def f_X6_moments (fu : Nat) (a0 : Nat) (z : hp_S) : Option (Int32 × hp_S) :=
  (ho_gr 6 a0 1 z).bind fun r1 =>
  (ho_gi 5 r1 1 z).bind fun v2 =>
  some (v2, z)
set_option maxHeartbeats 4000000 in
set_option maxRecDepth 100000 in
theorem c_X6_moments (l : Launch) (G : hp_G) (fu : Nat) (a0 : Nat) (z : hp_S) (rq : Int32) (zq : hp_S) (h : f_X6_moments fu a0 z = some (rq, zq)) : hp_M l G yX6_moments cX6_moments 1 (some .int) 0 0 0 0 [.ref a0] z (hp_Qi G rq zq) := by
  refine hp_M.of (by decide) (Nat.le_of_ble_eq_true rfl) ?_
  intro p e s m below meth c X hr hlocks hnm hP hS ls hl
  have X : hp_C G cX6_moments RX6 1 p s m c := X
  have hl : lv_has ls 1 [(0, .ref a0)] := hl
  have hx := X.1
  have hb := X.2.1
  unfold f_X6_moments at h
  refine lv_aload_n hx hb dX6_moments_0 rfl (lv_at hl 0 rfl) ?_
  obtain ⟨r1, q, h⟩ := ho_bd h
  refine hw_gr X hP LX6 fX6_28 rfl q dX6_moments_1 ?_
  obtain ⟨v2, q, h⟩ := ho_bd h
  refine hw_gi X hP LX5 fX6_127 rfl q dX6_moments_4 ?_
  exact hw_iret X hP hS hr hlocks h dX6_moments_7
def f_X6_isMoment (fu : Nat) (a0 : Nat) (x1 : Int32) (z : hp_S) : Option (Int32 × hp_S) :=
  (ho_gr 6 a0 1 z).bind fun r1 =>
  (ho_gi 5 r1 1 z).bind fun v2 =>
  (f_X6_within fu x1 0 (v2 - 1) z).bind fun ⟨v3, z⟩ =>
  if vp_nar .boolean v3 = v3 then some (v3, z) else none
set_option maxHeartbeats 4000000 in
set_option maxRecDepth 100000 in
theorem c_X6_isMoment (l : Launch) (G : hp_G) (fu : Nat) (a0 : Nat) (x1 : Int32) (z : hp_S) (rq : Int32) (zq : hp_S) (h : f_X6_isMoment fu a0 x1 z = some (rq, zq)) : hp_M l G yX6_isMoment cX6_isMoment 2 (some .boolean) 1 22 0 0 [.ref a0, .int x1] z (hp_Qi G rq zq) := by
  refine hp_M.of (by decide) (Nat.le_of_ble_eq_true rfl) ?_
  intro p e s m below meth c X hr hlocks hnm hP hS ls hl
  have X : hp_C G cX6_isMoment RX6 2 p s m c := X
  have hl : lv_has ls 2 [(0, .ref a0), (1, .int x1)] := hl
  have hx := X.1
  have hb := X.2.1
  unfold f_X6_isMoment at h
  refine lv_iload_n hx hb dX6_isMoment_0 rfl (lv_at hl 1 rfl) ?_
  refine lv_iconst (v := 0) hx hb dX6_isMoment_1 (by decide) ?_
  refine lv_aload_n hx hb dX6_isMoment_2 rfl (lv_at hl 0 rfl) ?_
  obtain ⟨r1, q, h⟩ := ho_bd h
  refine hw_gr X hP LX6 fX6_28 rfl q dX6_isMoment_3 ?_
  obtain ⟨v2, q, h⟩ := ho_bd h
  refine hw_gi X hP LX5 fX6_127 rfl q dX6_isMoment_6 ?_
  refine lv_iconst (v := 1) hx hb dX6_isMoment_9 (by decide) ?_
  refine lv_isub hx hb dX6_isMoment_10 ?_
  obtain ⟨⟨v3, z⟩, q, h⟩ := ho_bd h
  refine hw_ci hS (hp_runS (As := [.int x1, .int 0, .int (v2 - 1)]) (rest := []) X hP hS hl.1 kX6_97 m2_35 (c_X6_within l G fu x1 0 (v2 - 1) _ _ _ q) rfl (Nat.le_of_ble_eq_true rfl) ⟨⟨Nat.le_of_ble_eq_true rfl, Nat.le_of_ble_eq_true rfl⟩, Nat.le_of_ble_eq_true rfl, Nat.le_of_ble_eq_true rfl⟩ dX6_isMoment_11) (fun H locs hP hS => ?_)
  exact hw_zret X hP hS hr hlocks h dX6_isMoment_14
def f_X6_time_B22 (fu : Nat) (a0 : Nat) (x1 : Int32) (s0 : Int32) (z : hp_S) : Option (Int32 × hp_S) :=
  some (s0, z)
def f_X6_time (fu : Nat) (a0 : Nat) (x1 : Int32) (z : hp_S) : Option (Int32 × hp_S) :=
  (ho_is 6 a0 z).bind fun _ =>
  (f_X6_isMoment fu a0 x1 z).bind fun ⟨v1, z⟩ =>
  if v1 = 0 then (
    f_X6_time_B22 fu a0 x1 (-2) z
  ) else (
    (ho_gr 6 a0 1 z).bind fun r2 =>
    (ho_gr 5 r2 0 z).bind fun r3 =>
    (ho_li 1 r3 x1 z).bind fun v4 =>
    f_X6_time_B22 fu a0 x1 v4 z
  )
set_option maxHeartbeats 4000000 in
set_option maxRecDepth 100000 in
theorem c_X6_time (l : Launch) (G : hp_G) (fu : Nat) (a0 : Nat) (x1 : Int32) (z : hp_S) (rq : Int32) (zq : hp_S) (h : f_X6_time fu a0 x1 z = some (rq, zq)) : hp_M l G yX6_time cX6_time 2 (some .int) 2 43 0 0 [.ref a0, .int x1] z (hp_Qi G rq zq) := by
  refine hp_M.of (by decide) (Nat.le_of_ble_eq_true rfl) ?_
  intro p e s m below meth c X hr hlocks hnm hP hS ls hl
  have X : hp_C G cX6_time RX6 2 p s m c := X
  have hl : lv_has ls 2 [(0, .ref a0), (1, .int x1)] := hl
  have hx := X.1
  have hb := X.2.1
  have B22 : ∀ (s0 : Int32) (z : hp_S) (H : Heap) (locs : List Loc) (ls : Array Slot), f_X6_time_B22 fu a0 x1 s0 z = some (rq, zq) → hp_P G z H → va_S (hp_A G) s.heap H locs → lv_has ls 2 [(0, .ref a0), (1, .int x1)] → W p l e (hp_rm 2 43 0 0) s m [.ref a0, .int x1].toArray below meth c H locs 0 0 (MQ below (hp_Qi G rq zq) [.ref a0, .int x1].toArray s 0 0 (hp_A G)) (F0 m 22 ls [.int s0]) := by
    intro s0 z H locs ls h hP hS hl
    unfold f_X6_time_B22 at h
    exact hw_iret X hP hS hr hlocks h dX6_time_22
  unfold f_X6_time at h
  refine lv_aload_n hx hb dX6_time_0 rfl (lv_at hl 0 rfl) ?_
  refine lv_iload_n hx hb dX6_time_1 rfl (lv_at hl 1 rfl) ?_
  obtain ⟨_, hs, h⟩ := ho_bd h
  obtain ⟨⟨v1, z⟩, q, h⟩ := ho_bd h
  refine hw_ci hS (hp_runV (As := [.int x1]) (rest := []) X hP hS hl.1 LX6 (ho_is_s hs) kX6_170 ⟨m3_70, mp_19⟩ (c_X6_isMoment l G fu a0 x1 _ _ _ q) rfl (Nat.le_of_ble_eq_true rfl) ⟨⟨Nat.le_of_ble_eq_true rfl, Nat.le_of_ble_eq_true rfl⟩, Nat.le_of_ble_eq_true rfl, Nat.le_of_ble_eq_true rfl⟩ dX6_time_2) (fun H locs hP hS => ?_)
  refine lv_if_eq (tgt := 20) hx hb dX6_time_5 (by decide) (fun hc => ?_) (fun hc => ?_)
  · replace h := ho_ip hc h
    refine lv_bipush (v := (-2)) hx hb dX6_time_20 (by decide) ?_
    exact B22 (-2) z _ _ _ h hP hS (lv_sub hl [0, 1] rfl)
  · replace h := ho_in hc h
    refine lv_aload_n hx hb dX6_time_8 rfl (lv_at hl 0 rfl) ?_
    obtain ⟨r2, q, h⟩ := ho_bd h
    refine hw_gr X hP LX6 fX6_28 rfl q dX6_time_9 ?_
    obtain ⟨r3, q, h⟩ := ho_bd h
    refine hw_gr X hP LX5 fX6_173 rfl q dX6_time_12 ?_
    refine lv_iload_n hx hb dX6_time_15 rfl (lv_at hl 1 rfl) ?_
    obtain ⟨v4, q, h⟩ := ho_bd h
    refine hw_li X hP q dX6_time_16 ?_
    refine lv_goto (tgt := 22) hx hb dX6_time_17 (by decide) ?_
    exact B22 v4 z _ _ _ h hP hS (lv_sub hl [0, 1] rfl)
def f_X6_height_B16 (fu : Nat) (a0 : Nat) (x1 : Int32) (x2 : Int32) (z : hp_S) : Option (Int32 × hp_S) :=
  some ((-2), z)
def f_X6_height_B65 (fu : Nat) (a0 : Nat) (x1 : Int32) (x2 : Int32) (s0 : Int32) (z : hp_S) : Option (Int32 × hp_S) :=
  some (s0, z)
def f_X6_height (fu : Nat) (a0 : Nat) (x1 : Int32) (x2 : Int32) (z : hp_S) : Option (Int32 × hp_S) :=
  (ho_is 6 a0 z).bind fun _ =>
  (f_X6_isVoice fu a0 x1 z).bind fun ⟨v1, z⟩ =>
  if v1 = 0 then (
    f_X6_height_B16 fu a0 x1 x2  z
  ) else (
    (ho_is 6 a0 z).bind fun _ =>
    (f_X6_isMoment fu a0 x2 z).bind fun ⟨v2, z⟩ =>
    if v2 = 0 then (
      f_X6_height_B16 fu a0 x1 x2  z
    ) else (
      (ho_gr 6 a0 5 z).bind fun r3 =>
      (ho_gr 6 a0 0 z).bind fun r4 =>
      (ho_gr 6 a0 1 z).bind fun r5 =>
      (ho_gr 5 r5 0 z).bind fun r6 =>
      (ho_li 1 r6 x2 z).bind fun v7 =>
      (ho_is 0 r3 z).bind fun _ =>
      (f_X0_load fu r3 r4 v7 z).bind fun z =>
      (ho_gr 6 a0 5 z).bind fun r8 =>
      (ho_gr 0 r8 0 z).bind fun r9 =>
      (ho_li 2 r9 x1 z).bind fun v10 =>
      if v10 = 0 then (
        f_X6_height_B65 fu a0 x1 x2 (-100) z
      ) else (
        (ho_gr 6 a0 5 z).bind fun r11 =>
        (ho_gr 0 r11 3 z).bind fun r12 =>
        (ho_li 1 r12 x1 z).bind fun v13 =>
        f_X6_height_B65 fu a0 x1 x2 v13 z
      )
    )
  )
set_option maxHeartbeats 4000000 in
set_option maxRecDepth 100000 in
theorem c_X6_height (l : Launch) (G : hp_G) (fu : Nat) (a0 : Nat) (x1 : Int32) (x2 : Int32) (z : hp_S) (rq : Int32) (zq : hp_S) (h : f_X6_height fu a0 x1 x2 z = some (rq, zq)) : hp_M l G yX6_height cX6_height 3 (some .int) 2 49 0 0 [.ref a0, .int x1, .int x2] z (hp_Qi G rq zq) := by
  refine hp_M.of (by decide) (Nat.le_of_ble_eq_true rfl) ?_
  intro p e s m below meth c X hr hlocks hnm hP hS ls hl
  have X : hp_C G cX6_height RX6 3 p s m c := X
  have hl : lv_has ls 3 [(0, .ref a0), (1, .int x1), (2, .int x2)] := hl
  have hx := X.1
  have hb := X.2.1
  have B16 : ∀ (z : hp_S) (H : Heap) (locs : List Loc) (ls : Array Slot), f_X6_height_B16 fu a0 x1 x2 z = some (rq, zq) → hp_P G z H → va_S (hp_A G) s.heap H locs → lv_has ls 3 [(0, .ref a0), (1, .int x1), (2, .int x2)] → W p l e (hp_rm 2 49 0 0) s m [.ref a0, .int x1, .int x2].toArray below meth c H locs 0 0 (MQ below (hp_Qi G rq zq) [.ref a0, .int x1, .int x2].toArray s 0 0 (hp_A G)) (F0 m 16 ls []) := by
    intro z H locs ls h hP hS hl
    unfold f_X6_height_B16 at h
    refine lv_bipush (v := (-2)) hx hb dX6_height_16 (by decide) ?_
    exact hw_iret X hP hS hr hlocks h dX6_height_18
  have B65 : ∀ (s0 : Int32) (z : hp_S) (H : Heap) (locs : List Loc) (ls : Array Slot), f_X6_height_B65 fu a0 x1 x2 s0 z = some (rq, zq) → hp_P G z H → va_S (hp_A G) s.heap H locs → lv_has ls 3 [(0, .ref a0), (1, .int x1), (2, .int x2)] → W p l e (hp_rm 2 49 0 0) s m [.ref a0, .int x1, .int x2].toArray below meth c H locs 0 0 (MQ below (hp_Qi G rq zq) [.ref a0, .int x1, .int x2].toArray s 0 0 (hp_A G)) (F0 m 65 ls [.int s0]) := by
    intro s0 z H locs ls h hP hS hl
    unfold f_X6_height_B65 at h
    exact hw_iret X hP hS hr hlocks h dX6_height_65
  unfold f_X6_height at h
  refine lv_aload_n hx hb dX6_height_0 rfl (lv_at hl 0 rfl) ?_
  refine lv_iload_n hx hb dX6_height_1 rfl (lv_at hl 1 rfl) ?_
  obtain ⟨_, hs, h⟩ := ho_bd h
  obtain ⟨⟨v1, z⟩, q, h⟩ := ho_bd h
  refine hw_ci hS (hp_runV (As := [.int x1]) (rest := []) X hP hS hl.1 LX6 (ho_is_s hs) kX6_90 ⟨m2_32, mp_4⟩ (c_X6_isVoice l G fu a0 x1 _ _ _ q) rfl (Nat.le_of_ble_eq_true rfl) ⟨⟨Nat.le_of_ble_eq_true rfl, Nat.le_of_ble_eq_true rfl⟩, Nat.le_of_ble_eq_true rfl, Nat.le_of_ble_eq_true rfl⟩ dX6_height_2) (fun H locs hP hS => ?_)
  refine lv_if_eq (tgt := 16) hx hb dX6_height_5 (by decide) (fun hc => ?_) (fun hc => ?_)
  · replace h := ho_ip hc h
    exact B16 z _ _ _ h hP hS (lv_sub hl [0, 1, 2] rfl)
  · replace h := ho_in hc h
    refine lv_aload_n hx hb dX6_height_8 rfl (lv_at hl 0 rfl) ?_
    refine lv_iload_n hx hb dX6_height_9 rfl (lv_at hl 2 rfl) ?_
    obtain ⟨_, hs, h⟩ := ho_bd h
    obtain ⟨⟨v2, z⟩, q, h⟩ := ho_bd h
    refine hw_ci hS (hp_runV (As := [.int x2]) (rest := []) X hP hS hl.1 LX6 (ho_is_s hs) kX6_170 ⟨m3_70, mp_19⟩ (c_X6_isMoment l G fu a0 x2 _ _ _ q) rfl (Nat.le_of_ble_eq_true rfl) ⟨⟨Nat.le_of_ble_eq_true rfl, Nat.le_of_ble_eq_true rfl⟩, Nat.le_of_ble_eq_true rfl, Nat.le_of_ble_eq_true rfl⟩ dX6_height_10) (fun H locs hP hS => ?_)
    refine lv_if_ne (tgt := 19) hx hb dX6_height_13 (by decide) (fun hc => ?_) (fun hc => ?_)
    · replace h := ho_in hc h
      refine lv_aload_n hx hb dX6_height_19 rfl (lv_at hl 0 rfl) ?_
      obtain ⟨r3, q, h⟩ := ho_bd h
      refine hw_gr X hP LX6 fX6_54 rfl q dX6_height_20 ?_
      refine lv_aload_n hx hb dX6_height_23 rfl (lv_at hl 0 rfl) ?_
      obtain ⟨r4, q, h⟩ := ho_bd h
      refine hw_gr X hP LX6 fX6_20 rfl q dX6_height_24 ?_
      refine lv_aload_n hx hb dX6_height_27 rfl (lv_at hl 0 rfl) ?_
      obtain ⟨r5, q, h⟩ := ho_bd h
      refine hw_gr X hP LX6 fX6_28 rfl q dX6_height_28 ?_
      obtain ⟨r6, q, h⟩ := ho_bd h
      refine hw_gr X hP LX5 fX6_173 rfl q dX6_height_31 ?_
      refine lv_iload_n hx hb dX6_height_34 rfl (lv_at hl 2 rfl) ?_
      obtain ⟨v7, q, h⟩ := ho_bd h
      refine hw_li X hP q dX6_height_35 ?_
      obtain ⟨_, hs, h⟩ := ho_bd h
      obtain ⟨z, q, h⟩ := ho_bd h
      refine hw_cv hS (hp_runV (As := [.ref r4, .int v7]) (rest := []) X hP hS hl.1 LX0 (ho_is_s hs) kX6_176 ⟨m2_159, m2_160⟩ (c_X0_load l G fu r3 r4 v7 _ _ q) rfl (Nat.le_of_ble_eq_true rfl) ⟨⟨Nat.le_of_ble_eq_true rfl, Nat.le_of_ble_eq_true rfl⟩, Nat.le_of_ble_eq_true rfl, Nat.le_of_ble_eq_true rfl⟩ dX6_height_36) (fun H locs hP hS => ?_)
      refine lv_aload_n hx hb dX6_height_39 rfl (lv_at hl 0 rfl) ?_
      obtain ⟨r8, q, h⟩ := ho_bd h
      refine hw_gr X hP LX6 fX6_54 rfl q dX6_height_40 ?_
      obtain ⟨r9, q, h⟩ := ho_bd h
      refine hw_gr X hP LX0 fX6_179 rfl q dX6_height_43 ?_
      refine lv_iload_n hx hb dX6_height_46 rfl (lv_at hl 1 rfl) ?_
      obtain ⟨v10, q, h⟩ := ho_bd h
      refine hw_lz X hP q dX6_height_47 ?_
      refine lv_if_eq (tgt := 63) hx hb dX6_height_48 (by decide) (fun hc => ?_) (fun hc => ?_)
      · replace h := ho_ip hc h
        refine lv_bipush (v := (-100)) hx hb dX6_height_63 (by decide) ?_
        exact B65 (-100) z _ _ _ h hP hS (lv_sub hl [0, 1, 2] rfl)
      · replace h := ho_in hc h
        refine lv_aload_n hx hb dX6_height_51 rfl (lv_at hl 0 rfl) ?_
        obtain ⟨r11, q, h⟩ := ho_bd h
        refine hw_gr X hP LX6 fX6_54 rfl q dX6_height_52 ?_
        obtain ⟨r12, q, h⟩ := ho_bd h
        refine hw_gr X hP LX0 fX6_183 rfl q dX6_height_55 ?_
        refine lv_iload_n hx hb dX6_height_58 rfl (lv_at hl 1 rfl) ?_
        obtain ⟨v13, q, h⟩ := ho_bd h
        refine hw_li X hP q dX6_height_59 ?_
        refine lv_goto (tgt := 65) hx hb dX6_height_60 (by decide) ?_
        exact B65 v13 z _ _ _ h hP hS (lv_sub hl [0, 1, 2] rfl)
    · replace h := ho_ip hc h
      exact B16 z _ _ _ h hP hS (lv_sub hl [0, 1, 2] rfl)
def f_X6_interval_B29 (fu : Nat) (a0 : Nat) (x1 : Int32) (x2 : Int32) (x3 : Int32) (z : hp_S) : Option (Int32 × hp_S) :=
  some ((-2), z)
def f_X6_interval_B90 (fu : Nat) (a0 : Nat) (x1 : Int32) (x2 : Int32) (x3 : Int32) (s0 : Int32) (z : hp_S) : Option (Int32 × hp_S) :=
  some (s0, z)
def f_X6_interval_B88 (fu : Nat) (a0 : Nat) (x1 : Int32) (x2 : Int32) (x3 : Int32) (z : hp_S) : Option (Int32 × hp_S) :=
  f_X6_interval_B90 fu a0 x1 x2 x3 (-100) z
def f_X6_interval (fu : Nat) (a0 : Nat) (x1 : Int32) (x2 : Int32) (x3 : Int32) (z : hp_S) : Option (Int32 × hp_S) :=
  (ho_is 6 a0 z).bind fun _ =>
  (f_X6_isVoice fu a0 x1 z).bind fun ⟨v1, z⟩ =>
  if v1 = 0 then (
    f_X6_interval_B29 fu a0 x1 x2 x3  z
  ) else (
    (ho_is 6 a0 z).bind fun _ =>
    (f_X6_isVoice fu a0 x2 z).bind fun ⟨v2, z⟩ =>
    if v2 = 0 then (
      f_X6_interval_B29 fu a0 x1 x2 x3  z
    ) else (
      if x2 ≤ x1 then (
        f_X6_interval_B29 fu a0 x1 x2 x3  z
      ) else (
        (ho_is 6 a0 z).bind fun _ =>
        (f_X6_isMoment fu a0 x3 z).bind fun ⟨v3, z⟩ =>
        if v3 = 0 then (
          f_X6_interval_B29 fu a0 x1 x2 x3  z
        ) else (
          (ho_gr 6 a0 5 z).bind fun r4 =>
          (ho_gr 6 a0 0 z).bind fun r5 =>
          (ho_gr 6 a0 1 z).bind fun r6 =>
          (ho_gr 5 r6 0 z).bind fun r7 =>
          (ho_li 1 r7 x3 z).bind fun v8 =>
          (ho_is 0 r4 z).bind fun _ =>
          (f_X0_load fu r4 r5 v8 z).bind fun z =>
          (ho_gr 6 a0 5 z).bind fun r9 =>
          (ho_gr 0 r9 0 z).bind fun r10 =>
          (ho_li 2 r10 x1 z).bind fun v11 =>
          if v11 = 0 then (
            f_X6_interval_B88 fu a0 x1 x2 x3  z
          ) else (
            (ho_gr 6 a0 5 z).bind fun r12 =>
            (ho_gr 0 r12 0 z).bind fun r13 =>
            (ho_li 2 r13 x2 z).bind fun v14 =>
            if v14 = 0 then (
              f_X6_interval_B88 fu a0 x1 x2 x3  z
            ) else (
              (ho_gr 6 a0 5 z).bind fun r15 =>
              (ho_is 0 r15 z).bind fun _ =>
              (f_X0_quality fu r15 x1 x2 z).bind fun ⟨v16, z⟩ =>
              f_X6_interval_B90 fu a0 x1 x2 x3 v16 z
            )
          )
        )
      )
    )
  )
set_option maxHeartbeats 4000000 in
set_option maxRecDepth 100000 in
theorem c_X6_interval (l : Launch) (G : hp_G) (fu : Nat) (a0 : Nat) (x1 : Int32) (x2 : Int32) (x3 : Int32) (z : hp_S) (rq : Int32) (zq : hp_S) (h : f_X6_interval fu a0 x1 x2 x3 z = some (rq, zq)) : hp_M l G yX6_interval cX6_interval 4 (some .int) 2 49 0 0 [.ref a0, .int x1, .int x2, .int x3] z (hp_Qi G rq zq) := by
  refine hp_M.of (by decide) (Nat.le_of_ble_eq_true rfl) ?_
  intro p e s m below meth c X hr hlocks hnm hP hS ls hl
  have X : hp_C G cX6_interval RX6 4 p s m c := X
  have hl : lv_has ls 4 [(0, .ref a0), (1, .int x1), (2, .int x2), (3, .int x3)] := hl
  have hx := X.1
  have hb := X.2.1
  have B29 : ∀ (z : hp_S) (H : Heap) (locs : List Loc) (ls : Array Slot), f_X6_interval_B29 fu a0 x1 x2 x3 z = some (rq, zq) → hp_P G z H → va_S (hp_A G) s.heap H locs → lv_has ls 4 [(0, .ref a0), (1, .int x1), (2, .int x2), (3, .int x3)] → W p l e (hp_rm 2 49 0 0) s m [.ref a0, .int x1, .int x2, .int x3].toArray below meth c H locs 0 0 (MQ below (hp_Qi G rq zq) [.ref a0, .int x1, .int x2, .int x3].toArray s 0 0 (hp_A G)) (F0 m 29 ls []) := by
    intro z H locs ls h hP hS hl
    unfold f_X6_interval_B29 at h
    refine lv_bipush (v := (-2)) hx hb dX6_interval_29 (by decide) ?_
    exact hw_iret X hP hS hr hlocks h dX6_interval_31
  have B90 : ∀ (s0 : Int32) (z : hp_S) (H : Heap) (locs : List Loc) (ls : Array Slot), f_X6_interval_B90 fu a0 x1 x2 x3 s0 z = some (rq, zq) → hp_P G z H → va_S (hp_A G) s.heap H locs → lv_has ls 4 [(0, .ref a0), (1, .int x1), (2, .int x2), (3, .int x3)] → W p l e (hp_rm 2 49 0 0) s m [.ref a0, .int x1, .int x2, .int x3].toArray below meth c H locs 0 0 (MQ below (hp_Qi G rq zq) [.ref a0, .int x1, .int x2, .int x3].toArray s 0 0 (hp_A G)) (F0 m 90 ls [.int s0]) := by
    intro s0 z H locs ls h hP hS hl
    unfold f_X6_interval_B90 at h
    exact hw_iret X hP hS hr hlocks h dX6_interval_90
  have B88 : ∀ (z : hp_S) (H : Heap) (locs : List Loc) (ls : Array Slot), f_X6_interval_B88 fu a0 x1 x2 x3 z = some (rq, zq) → hp_P G z H → va_S (hp_A G) s.heap H locs → lv_has ls 4 [(0, .ref a0), (1, .int x1), (2, .int x2), (3, .int x3)] → W p l e (hp_rm 2 49 0 0) s m [.ref a0, .int x1, .int x2, .int x3].toArray below meth c H locs 0 0 (MQ below (hp_Qi G rq zq) [.ref a0, .int x1, .int x2, .int x3].toArray s 0 0 (hp_A G)) (F0 m 88 ls []) := by
    intro z H locs ls h hP hS hl
    unfold f_X6_interval_B88 at h
    refine lv_bipush (v := (-100)) hx hb dX6_interval_88 (by decide) ?_
    exact B90 (-100) z _ _ _ h hP hS (lv_sub hl [0, 1, 2, 3] rfl)
  unfold f_X6_interval at h
  refine lv_aload_n hx hb dX6_interval_0 rfl (lv_at hl 0 rfl) ?_
  refine lv_iload_n hx hb dX6_interval_1 rfl (lv_at hl 1 rfl) ?_
  obtain ⟨_, hs, h⟩ := ho_bd h
  obtain ⟨⟨v1, z⟩, q, h⟩ := ho_bd h
  refine hw_ci hS (hp_runV (As := [.int x1]) (rest := []) X hP hS hl.1 LX6 (ho_is_s hs) kX6_90 ⟨m2_32, mp_4⟩ (c_X6_isVoice l G fu a0 x1 _ _ _ q) rfl (Nat.le_of_ble_eq_true rfl) ⟨⟨Nat.le_of_ble_eq_true rfl, Nat.le_of_ble_eq_true rfl⟩, Nat.le_of_ble_eq_true rfl, Nat.le_of_ble_eq_true rfl⟩ dX6_interval_2) (fun H locs hP hS => ?_)
  refine lv_if_eq (tgt := 29) hx hb dX6_interval_5 (by decide) (fun hc => ?_) (fun hc => ?_)
  · replace h := ho_ip hc h
    exact B29 z _ _ _ h hP hS (lv_sub hl [0, 1, 2, 3] rfl)
  · replace h := ho_in hc h
    refine lv_aload_n hx hb dX6_interval_8 rfl (lv_at hl 0 rfl) ?_
    refine lv_iload_n hx hb dX6_interval_9 rfl (lv_at hl 2 rfl) ?_
    obtain ⟨_, hs, h⟩ := ho_bd h
    obtain ⟨⟨v2, z⟩, q, h⟩ := ho_bd h
    refine hw_ci hS (hp_runV (As := [.int x2]) (rest := []) X hP hS hl.1 LX6 (ho_is_s hs) kX6_90 ⟨m2_32, mp_4⟩ (c_X6_isVoice l G fu a0 x2 _ _ _ q) rfl (Nat.le_of_ble_eq_true rfl) ⟨⟨Nat.le_of_ble_eq_true rfl, Nat.le_of_ble_eq_true rfl⟩, Nat.le_of_ble_eq_true rfl, Nat.le_of_ble_eq_true rfl⟩ dX6_interval_10) (fun H locs hP hS => ?_)
    refine lv_if_eq (tgt := 29) hx hb dX6_interval_13 (by decide) (fun hc => ?_) (fun hc => ?_)
    · replace h := ho_ip hc h
      exact B29 z _ _ _ h hP hS (lv_sub hl [0, 1, 2, 3] rfl)
    · replace h := ho_in hc h
      refine lv_iload_n hx hb dX6_interval_16 rfl (lv_at hl 1 rfl) ?_
      refine lv_iload_n hx hb dX6_interval_17 rfl (lv_at hl 2 rfl) ?_
      refine lv_icmp_ge (tgt := 29) hx hb dX6_interval_18 (by decide) (fun hc => ?_) (fun hc => ?_)
      · replace h := ho_ip hc h
        exact B29 z _ _ _ h hP hS (lv_sub hl [0, 1, 2, 3] rfl)
      · replace h := ho_in hc h
        refine lv_aload_n hx hb dX6_interval_21 rfl (lv_at hl 0 rfl) ?_
        refine lv_iload_n hx hb dX6_interval_22 rfl (lv_at hl 3 rfl) ?_
        obtain ⟨_, hs, h⟩ := ho_bd h
        obtain ⟨⟨v3, z⟩, q, h⟩ := ho_bd h
        refine hw_ci hS (hp_runV (As := [.int x3]) (rest := []) X hP hS hl.1 LX6 (ho_is_s hs) kX6_170 ⟨m3_70, mp_19⟩ (c_X6_isMoment l G fu a0 x3 _ _ _ q) rfl (Nat.le_of_ble_eq_true rfl) ⟨⟨Nat.le_of_ble_eq_true rfl, Nat.le_of_ble_eq_true rfl⟩, Nat.le_of_ble_eq_true rfl, Nat.le_of_ble_eq_true rfl⟩ dX6_interval_23) (fun H locs hP hS => ?_)
        refine lv_if_ne (tgt := 32) hx hb dX6_interval_26 (by decide) (fun hc => ?_) (fun hc => ?_)
        · replace h := ho_in hc h
          refine lv_aload_n hx hb dX6_interval_32 rfl (lv_at hl 0 rfl) ?_
          obtain ⟨r4, q, h⟩ := ho_bd h
          refine hw_gr X hP LX6 fX6_54 rfl q dX6_interval_33 ?_
          refine lv_aload_n hx hb dX6_interval_36 rfl (lv_at hl 0 rfl) ?_
          obtain ⟨r5, q, h⟩ := ho_bd h
          refine hw_gr X hP LX6 fX6_20 rfl q dX6_interval_37 ?_
          refine lv_aload_n hx hb dX6_interval_40 rfl (lv_at hl 0 rfl) ?_
          obtain ⟨r6, q, h⟩ := ho_bd h
          refine hw_gr X hP LX6 fX6_28 rfl q dX6_interval_41 ?_
          obtain ⟨r7, q, h⟩ := ho_bd h
          refine hw_gr X hP LX5 fX6_173 rfl q dX6_interval_44 ?_
          refine lv_iload_n hx hb dX6_interval_47 rfl (lv_at hl 3 rfl) ?_
          obtain ⟨v8, q, h⟩ := ho_bd h
          refine hw_li X hP q dX6_interval_48 ?_
          obtain ⟨_, hs, h⟩ := ho_bd h
          obtain ⟨z, q, h⟩ := ho_bd h
          refine hw_cv hS (hp_runV (As := [.ref r5, .int v8]) (rest := []) X hP hS hl.1 LX0 (ho_is_s hs) kX6_176 ⟨m2_159, m2_160⟩ (c_X0_load l G fu r4 r5 v8 _ _ q) rfl (Nat.le_of_ble_eq_true rfl) ⟨⟨Nat.le_of_ble_eq_true rfl, Nat.le_of_ble_eq_true rfl⟩, Nat.le_of_ble_eq_true rfl, Nat.le_of_ble_eq_true rfl⟩ dX6_interval_49) (fun H locs hP hS => ?_)
          refine lv_aload_n hx hb dX6_interval_52 rfl (lv_at hl 0 rfl) ?_
          obtain ⟨r9, q, h⟩ := ho_bd h
          refine hw_gr X hP LX6 fX6_54 rfl q dX6_interval_53 ?_
          obtain ⟨r10, q, h⟩ := ho_bd h
          refine hw_gr X hP LX0 fX6_179 rfl q dX6_interval_56 ?_
          refine lv_iload_n hx hb dX6_interval_59 rfl (lv_at hl 1 rfl) ?_
          obtain ⟨v11, q, h⟩ := ho_bd h
          refine hw_lz X hP q dX6_interval_60 ?_
          refine lv_if_eq (tgt := 88) hx hb dX6_interval_61 (by decide) (fun hc => ?_) (fun hc => ?_)
          · replace h := ho_ip hc h
            exact B88 z _ _ _ h hP hS (lv_sub hl [0, 1, 2, 3] rfl)
          · replace h := ho_in hc h
            refine lv_aload_n hx hb dX6_interval_64 rfl (lv_at hl 0 rfl) ?_
            obtain ⟨r12, q, h⟩ := ho_bd h
            refine hw_gr X hP LX6 fX6_54 rfl q dX6_interval_65 ?_
            obtain ⟨r13, q, h⟩ := ho_bd h
            refine hw_gr X hP LX0 fX6_179 rfl q dX6_interval_68 ?_
            refine lv_iload_n hx hb dX6_interval_71 rfl (lv_at hl 2 rfl) ?_
            obtain ⟨v14, q, h⟩ := ho_bd h
            refine hw_lz X hP q dX6_interval_72 ?_
            refine lv_if_eq (tgt := 88) hx hb dX6_interval_73 (by decide) (fun hc => ?_) (fun hc => ?_)
            · replace h := ho_ip hc h
              exact B88 z _ _ _ h hP hS (lv_sub hl [0, 1, 2, 3] rfl)
            · replace h := ho_in hc h
              refine lv_aload_n hx hb dX6_interval_76 rfl (lv_at hl 0 rfl) ?_
              obtain ⟨r15, q, h⟩ := ho_bd h
              refine hw_gr X hP LX6 fX6_54 rfl q dX6_interval_77 ?_
              refine lv_iload_n hx hb dX6_interval_80 rfl (lv_at hl 1 rfl) ?_
              refine lv_iload_n hx hb dX6_interval_81 rfl (lv_at hl 2 rfl) ?_
              obtain ⟨_, hs, h⟩ := ho_bd h
              obtain ⟨⟨v16, z⟩, q, h⟩ := ho_bd h
              refine hw_ci hS (hp_runV (As := [.int x1, .int x2]) (rest := []) X hP hS hl.1 LX0 (ho_is_s hs) kX6_186 ⟨m3_4, m3_5⟩ (c_X0_quality l G fu r15 x1 x2 _ _ _ q) rfl (Nat.le_of_ble_eq_true rfl) ⟨⟨Nat.le_of_ble_eq_true rfl, Nat.le_of_ble_eq_true rfl⟩, Nat.le_of_ble_eq_true rfl, Nat.le_of_ble_eq_true rfl⟩ dX6_interval_82) (fun H locs hP hS => ?_)
              refine lv_goto (tgt := 90) hx hb dX6_interval_85 (by decide) ?_
              exact B90 v16 z _ _ _ h hP hS (lv_sub hl [0, 1, 2, 3] rfl)
        · replace h := ho_ip hc h
          exact B29 z _ _ _ h hP hS (lv_sub hl [0, 1, 2, 3] rfl)
def f_X6_event_B36 (fu : Nat) (a0 : Nat) (x1 : Int32) (x2 : Int32) (x3 : Int32) (z : hp_S) : Option (Int32 × hp_S) :=
  some ((-2), z)
def f_X6_event_B94 (fu : Nat) (a0 : Nat) (x1 : Int32) (x2 : Int32) (x3 : Int32) (s0 : Int32) (z : hp_S) : Option (Int32 × hp_S) :=
  some (s0, z)
def f_X6_event (fu : Nat) (a0 : Nat) (x1 : Int32) (x2 : Int32) (x3 : Int32) (z : hp_S) : Option (Int32 × hp_S) :=
  (ho_is 6 a0 z).bind fun _ =>
  (f_X6_isVoice fu a0 x1 z).bind fun ⟨v1, z⟩ =>
  if v1 = 0 then (
    f_X6_event_B36 fu a0 x1 x2 x3  z
  ) else (
    (ho_gr 6 a0 0 z).bind fun r2 =>
    (ho_lr 4 r2 x1 z).bind fun r3 =>
    (ho_gi 4 r3 3 z).bind fun v4 =>
    (f_X6_within fu x2 0 (v4 - 1) z).bind fun ⟨v5, z⟩ =>
    if v5 = 0 then (
      f_X6_event_B36 fu a0 x1 x2 x3  z
    ) else (
      (f_X6_within fu x3 0 2 z).bind fun ⟨v6, z⟩ =>
      if v6 = 0 then (
        f_X6_event_B36 fu a0 x1 x2 x3  z
      ) else (
        (ho_gr 6 a0 0 z).bind fun r7 =>
        (ho_lr 4 r7 x1 z).bind fun r8 =>
        if x3 = 0 then (
          (ho_gr 4 r8 0 z).bind fun r14 =>
          (ho_li 1 r14 x2 z).bind fun v15 =>
          some (v15, z)
        ) else (
          if x3 = 1 then (
            (ho_gr 4 r8 1 z).bind fun r12 =>
            (ho_li 1 r12 x2 z).bind fun v13 =>
            some (v13, z)
          ) else (
            (ho_is 4 r8 z).bind fun _ =>
            (f_X4_isNote fu r8 x2 z).bind fun ⟨v9, z⟩ =>
            if v9 = 0 then (
              f_X6_event_B94 fu a0 x1 x2 x3 0 z
            ) else (
              (ho_gr 4 r8 2 z).bind fun r10 =>
              (ho_li 1 r10 x2 z).bind fun v11 =>
              f_X6_event_B94 fu a0 x1 x2 x3 (v11 + 2) z
            )
          )
        )
      )
    )
  )
set_option maxHeartbeats 4000000 in
set_option maxRecDepth 100000 in
theorem c_X6_event (l : Launch) (G : hp_G) (fu : Nat) (a0 : Nat) (x1 : Int32) (x2 : Int32) (x3 : Int32) (z : hp_S) (rq : Int32) (zq : hp_S) (h : f_X6_event fu a0 x1 x2 x3 z = some (rq, zq)) : hp_M l G yX6_event cX6_event 5 (some .int) 2 43 0 0 [.ref a0, .int x1, .int x2, .int x3] z (hp_Qi G rq zq) := by
  refine hp_M.of (by decide) (Nat.le_of_ble_eq_true rfl) ?_
  intro p e s m below meth c X hr hlocks hnm hP hS ls hl
  have X : hp_C G cX6_event RX6 5 p s m c := X
  have hl : lv_has ls 5 [(0, .ref a0), (1, .int x1), (2, .int x2), (3, .int x3)] := hl
  have hx := X.1
  have hb := X.2.1
  have B36 : ∀ (z : hp_S) (H : Heap) (locs : List Loc) (ls : Array Slot), f_X6_event_B36 fu a0 x1 x2 x3 z = some (rq, zq) → hp_P G z H → va_S (hp_A G) s.heap H locs → lv_has ls 5 [(0, .ref a0), (1, .int x1), (2, .int x2), (3, .int x3)] → W p l e (hp_rm 2 43 0 0) s m [.ref a0, .int x1, .int x2, .int x3].toArray below meth c H locs 0 0 (MQ below (hp_Qi G rq zq) [.ref a0, .int x1, .int x2, .int x3].toArray s 0 0 (hp_A G)) (F0 m 36 ls []) := by
    intro z H locs ls h hP hS hl
    unfold f_X6_event_B36 at h
    refine lv_bipush (v := (-2)) hx hb dX6_event_36 (by decide) ?_
    exact hw_iret X hP hS hr hlocks h dX6_event_38
  have B94 : ∀ (s0 : Int32) (z : hp_S) (H : Heap) (locs : List Loc) (ls : Array Slot), f_X6_event_B94 fu a0 x1 x2 x3 s0 z = some (rq, zq) → hp_P G z H → va_S (hp_A G) s.heap H locs → lv_has ls 5 [(0, .ref a0), (1, .int x1), (2, .int x2), (3, .int x3)] → W p l e (hp_rm 2 43 0 0) s m [.ref a0, .int x1, .int x2, .int x3].toArray below meth c H locs 0 0 (MQ below (hp_Qi G rq zq) [.ref a0, .int x1, .int x2, .int x3].toArray s 0 0 (hp_A G)) (F0 m 94 ls [.int s0]) := by
    intro s0 z H locs ls h hP hS hl
    unfold f_X6_event_B94 at h
    exact hw_iret X hP hS hr hlocks h dX6_event_94
  unfold f_X6_event at h
  refine lv_aload_n hx hb dX6_event_0 rfl (lv_at hl 0 rfl) ?_
  refine lv_iload_n hx hb dX6_event_1 rfl (lv_at hl 1 rfl) ?_
  obtain ⟨_, hs, h⟩ := ho_bd h
  obtain ⟨⟨v1, z⟩, q, h⟩ := ho_bd h
  refine hw_ci hS (hp_runV (As := [.int x1]) (rest := []) X hP hS hl.1 LX6 (ho_is_s hs) kX6_90 ⟨m2_32, mp_4⟩ (c_X6_isVoice l G fu a0 x1 _ _ _ q) rfl (Nat.le_of_ble_eq_true rfl) ⟨⟨Nat.le_of_ble_eq_true rfl, Nat.le_of_ble_eq_true rfl⟩, Nat.le_of_ble_eq_true rfl, Nat.le_of_ble_eq_true rfl⟩ dX6_event_2) (fun H locs hP hS => ?_)
  refine lv_if_eq (tgt := 36) hx hb dX6_event_5 (by decide) (fun hc => ?_) (fun hc => ?_)
  · replace h := ho_ip hc h
    exact B36 z _ _ _ h hP hS (lv_sub hl [0, 1, 2, 3] rfl)
  · replace h := ho_in hc h
    refine lv_iload_n hx hb dX6_event_8 rfl (lv_at hl 2 rfl) ?_
    refine lv_iconst (v := 0) hx hb dX6_event_9 (by decide) ?_
    refine lv_aload_n hx hb dX6_event_10 rfl (lv_at hl 0 rfl) ?_
    obtain ⟨r2, q, h⟩ := ho_bd h
    refine hw_gr X hP LX6 fX6_20 rfl q dX6_event_11 ?_
    refine lv_iload_n hx hb dX6_event_14 rfl (lv_at hl 1 rfl) ?_
    obtain ⟨r3, q, h⟩ := ho_bd h
    refine hw_lr (t0 := 2) X hP rfl q dX6_event_15 ?_
    obtain ⟨v4, q, h⟩ := ho_bd h
    refine hw_gi X hP LX4 fX6_66 rfl q dX6_event_16 ?_
    refine lv_iconst (v := 1) hx hb dX6_event_19 (by decide) ?_
    refine lv_isub hx hb dX6_event_20 ?_
    obtain ⟨⟨v5, z⟩, q, h⟩ := ho_bd h
    refine hw_ci hS (hp_runS (As := [.int x2, .int 0, .int (v4 - 1)]) (rest := []) X hP hS hl.1 kX6_97 m2_35 (c_X6_within l G fu x2 0 (v4 - 1) _ _ _ q) rfl (Nat.le_of_ble_eq_true rfl) ⟨⟨Nat.le_of_ble_eq_true rfl, Nat.le_of_ble_eq_true rfl⟩, Nat.le_of_ble_eq_true rfl, Nat.le_of_ble_eq_true rfl⟩ dX6_event_21) (fun H locs hP hS => ?_)
    refine lv_if_eq (tgt := 36) hx hb dX6_event_24 (by decide) (fun hc => ?_) (fun hc => ?_)
    · replace h := ho_ip hc h
      exact B36 z _ _ _ h hP hS (lv_sub hl [0, 1, 2, 3] rfl)
    · replace h := ho_in hc h
      refine lv_iload_n hx hb dX6_event_27 rfl (lv_at hl 3 rfl) ?_
      refine lv_iconst (v := 0) hx hb dX6_event_28 (by decide) ?_
      refine lv_iconst (v := 2) hx hb dX6_event_29 (by decide) ?_
      obtain ⟨⟨v6, z⟩, q, h⟩ := ho_bd h
      refine hw_ci hS (hp_runS (As := [.int x3, .int 0, .int 2]) (rest := []) X hP hS hl.1 kX6_97 m2_35 (c_X6_within l G fu x3 0 2 _ _ _ q) rfl (Nat.le_of_ble_eq_true rfl) ⟨⟨Nat.le_of_ble_eq_true rfl, Nat.le_of_ble_eq_true rfl⟩, Nat.le_of_ble_eq_true rfl, Nat.le_of_ble_eq_true rfl⟩ dX6_event_30) (fun H locs hP hS => ?_)
      refine lv_if_ne (tgt := 39) hx hb dX6_event_33 (by decide) (fun hc => ?_) (fun hc => ?_)
      · replace h := ho_in hc h
        refine lv_aload_n hx hb dX6_event_39 rfl (lv_at hl 0 rfl) ?_
        obtain ⟨r7, q, h⟩ := ho_bd h
        refine hw_gr X hP LX6 fX6_20 rfl q dX6_event_40 ?_
        refine lv_iload_n hx hb dX6_event_43 rfl (lv_at hl 1 rfl) ?_
        obtain ⟨r8, q, h⟩ := ho_bd h
        refine hw_lr (t0 := 2) X hP rfl q dX6_event_44 ?_
        refine lv_astore (lv' := [(4, .ref r8), (0, .ref a0), (1, .int x1), (2, .int x2), (3, .int x3)]) hx hb dX6_event_45 hl (by decide) rfl (fun ls hl => ?_)
        refine lv_iload_n hx hb dX6_event_47 rfl (lv_at hl 4 rfl) ?_
        refine lv_if_ne (tgt := 59) hx hb dX6_event_48 (by decide) (fun hc => ?_) (fun hc => ?_)
        · replace h := ho_in hc h
          refine lv_iload_n hx hb dX6_event_59 rfl (lv_at hl 4 rfl) ?_
          refine lv_iconst (v := 1) hx hb dX6_event_60 (by decide) ?_
          refine lv_icmp_ne (tgt := 72) hx hb dX6_event_61 (by decide) (fun hc => ?_) (fun hc => ?_)
          · replace h := ho_in hc h
            refine lv_aload hx hb dX6_event_72 (lv_at hl 0 rfl) ?_
            refine lv_iload_n hx hb dX6_event_74 rfl (lv_at hl 3 rfl) ?_
            obtain ⟨_, hs, h⟩ := ho_bd h
            obtain ⟨⟨v9, z⟩, q, h⟩ := ho_bd h
            refine hw_ci hS (hp_runV (As := [.int x2]) (rest := []) X hP hS hl.1 LX4 (ho_is_s hs) kX6_193 ⟨m2_91, m2_92⟩ (c_X4_isNote l G fu r8 x2 _ _ _ q) rfl (Nat.le_of_ble_eq_true rfl) ⟨⟨Nat.le_of_ble_eq_true rfl, Nat.le_of_ble_eq_true rfl⟩, Nat.le_of_ble_eq_true rfl, Nat.le_of_ble_eq_true rfl⟩ dX6_event_75) (fun H locs hP hS => ?_)
            refine lv_if_eq (tgt := 93) hx hb dX6_event_78 (by decide) (fun hc => ?_) (fun hc => ?_)
            · replace h := ho_ip hc h
              refine lv_iconst (v := 0) hx hb dX6_event_93 (by decide) ?_
              exact B94 0 z _ _ _ h hP hS (lv_sub hl [1, 2, 3, 4] rfl)
            · replace h := ho_in hc h
              refine lv_aload hx hb dX6_event_81 (lv_at hl 0 rfl) ?_
              obtain ⟨r10, q, h⟩ := ho_bd h
              refine hw_gr X hP LX4 fX6_196 rfl q dX6_event_83 ?_
              refine lv_iload_n hx hb dX6_event_86 rfl (lv_at hl 3 rfl) ?_
              obtain ⟨v11, q, h⟩ := ho_bd h
              refine hw_li X hP q dX6_event_87 ?_
              refine lv_iconst (v := 2) hx hb dX6_event_88 (by decide) ?_
              refine lv_iadd hx hb dX6_event_89 ?_
              refine lv_goto (tgt := 94) hx hb dX6_event_90 (by decide) ?_
              exact B94 (v11 + 2) z _ _ _ h hP hS (lv_sub hl [1, 2, 3, 4] rfl)
          · replace h := ho_ip hc h
            refine lv_aload hx hb dX6_event_64 (lv_at hl 0 rfl) ?_
            obtain ⟨r12, q, h⟩ := ho_bd h
            refine hw_gr X hP LX4 fX6_190 rfl q dX6_event_66 ?_
            refine lv_iload_n hx hb dX6_event_69 rfl (lv_at hl 3 rfl) ?_
            obtain ⟨v13, q, h⟩ := ho_bd h
            refine hw_li X hP q dX6_event_70 ?_
            exact hw_iret X hP hS hr hlocks h dX6_event_71
        · replace h := ho_ip hc h
          refine lv_aload hx hb dX6_event_51 (lv_at hl 0 rfl) ?_
          obtain ⟨r14, q, h⟩ := ho_bd h
          refine hw_gr X hP LX4 fX6_189 rfl q dX6_event_53 ?_
          refine lv_iload_n hx hb dX6_event_56 rfl (lv_at hl 3 rfl) ?_
          obtain ⟨v15, q, h⟩ := ho_bd h
          refine hw_li X hP q dX6_event_57 ?_
          exact hw_iret X hP hS hr hlocks h dX6_event_58
      · replace h := ho_ip hc h
        exact B36 z _ _ _ h hP hS (lv_sub hl [0, 1, 2, 3] rfl)
