def f_X7_fault_B23 (fu : Nat) (a0 : Nat) (x1 : Int32) (x2 : Int32) (z : hp_S) : Option (Int32 × hp_S) :=
  some ((-2), z)
def f_X7_fault (fu : Nat) (a0 : Nat) (x1 : Int32) (x2 : Int32) (z : hp_S) : Option (Int32 × hp_S) :=
  (ho_gi 7 a0 19 z).bind fun v1 =>
  (f_X7_isIn fu x1 0 (v1 - 1) z).bind fun ⟨v2, z⟩ =>
  if v2 = 0 then (
    f_X7_fault_B23 fu a0 x1 x2  z
  ) else (
    (f_X7_isIn fu x2 0 4 z).bind fun ⟨v3, z⟩ =>
    if v3 = 0 then (
      f_X7_fault_B23 fu a0 x1 x2  z
    ) else (
      (ho_gr 7 a0 21 z).bind fun r4 =>
      (ho_li 1 r4 x1 z).bind fun v5 =>
      (ho_dv v5 1000).bind fun v6 =>
      (ho_gr 7 a0 21 z).bind fun r7 =>
      (ho_li 1 r7 x1 z).bind fun v8 =>
      (ho_rm v8 1000).bind fun v9 =>
      (ho_dv v9 50).bind fun v10 =>
      (ho_gr 7 a0 21 z).bind fun r11 =>
      (ho_li 1 r11 x1 z).bind fun v12 =>
      (ho_rm v12 50).bind fun v13 =>
      if x2 = 0 then (
        some (v10, z)
      ) else (
      if x2 = 1 then (
        (ho_gr 7 a0 22 z).bind fun r14 =>
        (ho_li 1 r14 v6 z).bind fun v15 =>
        some (v15, z)
      ) else (
      if x2 = 2 then (
        (ho_dv v13 7).bind fun v16 =>
        some (v16, z)
      ) else (
      if x2 = 3 then (
        (ho_rm v13 7).bind fun v17 =>
        some ((v17 - 1), z)
      ) else (
        some (v6, z)
      ))))
    )
  )
set_option maxHeartbeats 4000000 in
set_option maxRecDepth 100000 in
theorem c_X7_fault (l : Launch) (G : hp_G) (fu : Nat) (a0 : Nat) (x1 : Int32) (x2 : Int32) (z : hp_S) (rq : Int32) (zq : hp_S) (h : f_X7_fault fu a0 x1 x2 z = some (rq, zq)) : hp_M l G yX7_fault cX7_fault 6 (some .int) 1 22 0 0 [.ref a0, .int x1, .int x2] z (hp_Qi G rq zq) := by
  refine hp_M.of (by decide) (Nat.le_of_ble_eq_true rfl) ?_
  intro p e s m below meth c X hr hlocks hnm hP hS ls hl
  have X : hp_C G cX7_fault RX7 6 p s m c := X
  have hl : lv_has ls 6 [(0, .ref a0), (1, .int x1), (2, .int x2)] := hl
  have hx := X.1
  have hb := X.2.1
  have B23 : ∀ (z : hp_S) (H : Heap) (locs : List Loc) (ls : Array Slot), f_X7_fault_B23 fu a0 x1 x2 z = some (rq, zq) → hp_P G z H → va_S (hp_A G) s.heap H locs → lv_has ls 6 [(0, .ref a0), (1, .int x1), (2, .int x2)] → W p l e (hp_rm 1 22 0 0) s m [.ref a0, .int x1, .int x2].toArray below meth c H locs 0 0 (MQ below (hp_Qi G rq zq) [.ref a0, .int x1, .int x2].toArray s 0 0 (hp_A G)) (F0 m 23 ls []) := by
    intro z H locs ls h hP hS hl
    unfold f_X7_fault_B23 at h
    refine lv_bipush (v := (-2)) hx hb dX7_fault_23 (by decide) ?_
    exact hw_iret X hP hS hr hlocks h dX7_fault_25
  unfold f_X7_fault at h
  refine lv_iload_n hx hb dX7_fault_0 rfl (lv_at hl 1 rfl) ?_
  refine lv_iconst (v := 0) hx hb dX7_fault_1 (by decide) ?_
  refine lv_aload_n hx hb dX7_fault_2 rfl (lv_at hl 0 rfl) ?_
  obtain ⟨v1, q, h⟩ := ho_bd h
  refine hw_gi X hP LX7 fX7_75 rfl q dX7_fault_3 ?_
  refine lv_iconst (v := 1) hx hb dX7_fault_6 (by decide) ?_
  refine lv_isub hx hb dX7_fault_7 ?_
  obtain ⟨⟨v2, z⟩, q, h⟩ := ho_bd h
  refine hw_ci hS (hp_runS (As := [.int x1, .int 0, .int (v1 - 1)]) (rest := []) X hP hS hl.1 kX7_81 m3_183 (c_X7_isIn l G fu x1 0 (v1 - 1) _ _ _ q) rfl (Nat.le_of_ble_eq_true rfl) ⟨⟨Nat.le_of_ble_eq_true rfl, Nat.le_of_ble_eq_true rfl⟩, Nat.le_of_ble_eq_true rfl, Nat.le_of_ble_eq_true rfl⟩ dX7_fault_8) (fun H locs hP hS => ?_)
  refine lv_if_eq (tgt := 23) hx hb dX7_fault_11 (by decide) (fun hc => ?_) (fun hc => ?_)
  · replace h := ho_ip hc h
    exact B23 z _ _ _ h hP hS (lv_sub hl [0, 1, 2] rfl)
  · replace h := ho_in hc h
    refine lv_iload_n hx hb dX7_fault_14 rfl (lv_at hl 2 rfl) ?_
    refine lv_iconst (v := 0) hx hb dX7_fault_15 (by decide) ?_
    refine lv_iconst (v := 4) hx hb dX7_fault_16 (by decide) ?_
    obtain ⟨⟨v3, z⟩, q, h⟩ := ho_bd h
    refine hw_ci hS (hp_runS (As := [.int x2, .int 0, .int 4]) (rest := []) X hP hS hl.1 kX7_81 m3_183 (c_X7_isIn l G fu x2 0 4 _ _ _ q) rfl (Nat.le_of_ble_eq_true rfl) ⟨⟨Nat.le_of_ble_eq_true rfl, Nat.le_of_ble_eq_true rfl⟩, Nat.le_of_ble_eq_true rfl, Nat.le_of_ble_eq_true rfl⟩ dX7_fault_17) (fun H locs hP hS => ?_)
    refine lv_if_ne (tgt := 26) hx hb dX7_fault_20 (by decide) (fun hc => ?_) (fun hc => ?_)
    · replace h := ho_in hc h
      refine lv_aload_n hx hb dX7_fault_26 rfl (lv_at hl 0 rfl) ?_
      obtain ⟨r4, q, h⟩ := ho_bd h
      refine hw_gr X hP LX7 fX7_50 rfl q dX7_fault_27 ?_
      refine lv_iload_n hx hb dX7_fault_30 rfl (lv_at hl 1 rfl) ?_
      obtain ⟨v5, q, h⟩ := ho_bd h
      refine hw_li X hP q dX7_fault_31 ?_
      refine lv_sipush (v := 1000) hx hb dX7_fault_32 (by decide) ?_
      obtain ⟨v6, q, h⟩ := ho_bd h
      refine hw_dv X q dX7_fault_35 ?_
      refine lv_istore_n (lv' := [(3, .int v6), (0, .ref a0), (1, .int x1), (2, .int x2)]) hx hb dX7_fault_36 rfl hl (by decide) rfl (fun ls hl => ?_)
      refine lv_aload_n hx hb dX7_fault_37 rfl (lv_at hl 1 rfl) ?_
      obtain ⟨r7, q, h⟩ := ho_bd h
      refine hw_gr X hP LX7 fX7_50 rfl q dX7_fault_38 ?_
      refine lv_iload_n hx hb dX7_fault_41 rfl (lv_at hl 2 rfl) ?_
      obtain ⟨v8, q, h⟩ := ho_bd h
      refine hw_li X hP q dX7_fault_42 ?_
      refine lv_sipush (v := 1000) hx hb dX7_fault_43 (by decide) ?_
      obtain ⟨v9, q, h⟩ := ho_bd h
      refine hw_rm X q dX7_fault_46 ?_
      refine lv_bipush (v := 50) hx hb dX7_fault_47 (by decide) ?_
      obtain ⟨v10, q, h⟩ := ho_bd h
      refine hw_dv X q dX7_fault_49 ?_
      refine lv_istore (lv' := [(4, .int v10), (3, .int v6), (0, .ref a0), (1, .int x1), (2, .int x2)]) hx hb dX7_fault_50 hl (by decide) rfl (fun ls hl => ?_)
      refine lv_aload_n hx hb dX7_fault_52 rfl (lv_at hl 2 rfl) ?_
      obtain ⟨r11, q, h⟩ := ho_bd h
      refine hw_gr X hP LX7 fX7_50 rfl q dX7_fault_53 ?_
      refine lv_iload_n hx hb dX7_fault_56 rfl (lv_at hl 3 rfl) ?_
      obtain ⟨v12, q, h⟩ := ho_bd h
      refine hw_li X hP q dX7_fault_57 ?_
      refine lv_bipush (v := 50) hx hb dX7_fault_58 (by decide) ?_
      obtain ⟨v13, q, h⟩ := ho_bd h
      refine hw_rm X q dX7_fault_60 ?_
      refine lv_istore (lv' := [(5, .int v13), (4, .int v10), (3, .int v6), (0, .ref a0), (1, .int x1), (2, .int x2)]) hx hb dX7_fault_61 hl (by decide) rfl (fun ls hl => ?_)
      refine lv_iload_n hx hb dX7_fault_63 rfl (lv_at hl 5 rfl) ?_
      by_cases hc0 : x2 = 0
      · replace h := ho_ip hc0 h
        refine lv_tableIn (tgt := 96) hx hb dX7_fault_64 (by rw [hc0]; decide) (by rw [hc0]; decide) (by rw [hc0]; rfl) (by decide) ?_
        refine lv_iload hx hb dX7_fault_96 (lv_at hl 1 rfl) ?_
        exact hw_iret X hP hS hr hlocks h dX7_fault_98
      replace h := ho_in hc0 h
      by_cases hc1 : x2 = 1
      · replace h := ho_ip hc1 h
        refine lv_tableIn (tgt := 99) hx hb dX7_fault_64 (by rw [hc1]; decide) (by rw [hc1]; decide) (by rw [hc1]; rfl) (by decide) ?_
        refine lv_aload_n hx hb dX7_fault_99 rfl (lv_at hl 3 rfl) ?_
        obtain ⟨r14, q, h⟩ := ho_bd h
        refine hw_gr X hP LX7 fX7_53 rfl q dX7_fault_100 ?_
        refine lv_iload_n hx hb dX7_fault_103 rfl (lv_at hl 2 rfl) ?_
        obtain ⟨v15, q, h⟩ := ho_bd h
        refine hw_li X hP q dX7_fault_104 ?_
        exact hw_iret X hP hS hr hlocks h dX7_fault_105
      replace h := ho_in hc1 h
      by_cases hc2 : x2 = 2
      · replace h := ho_ip hc2 h
        refine lv_tableIn (tgt := 106) hx hb dX7_fault_64 (by rw [hc2]; decide) (by rw [hc2]; decide) (by rw [hc2]; rfl) (by decide) ?_
        refine lv_iload hx hb dX7_fault_106 (lv_at hl 0 rfl) ?_
        refine lv_bipush (v := 7) hx hb dX7_fault_108 (by decide) ?_
        obtain ⟨v16, q, h⟩ := ho_bd h
        refine hw_dv X q dX7_fault_110 ?_
        exact hw_iret X hP hS hr hlocks h dX7_fault_111
      replace h := ho_in hc2 h
      by_cases hc3 : x2 = 3
      · replace h := ho_ip hc3 h
        refine lv_tableIn (tgt := 112) hx hb dX7_fault_64 (by rw [hc3]; decide) (by rw [hc3]; decide) (by rw [hc3]; rfl) (by decide) ?_
        refine lv_iload hx hb dX7_fault_112 (lv_at hl 0 rfl) ?_
        refine lv_bipush (v := 7) hx hb dX7_fault_114 (by decide) ?_
        obtain ⟨v17, q, h⟩ := ho_bd h
        refine hw_rm X q dX7_fault_116 ?_
        refine lv_iconst (v := 1) hx hb dX7_fault_117 (by decide) ?_
        refine lv_isub hx hb dX7_fault_118 ?_
        exact hw_iret X hP hS hr hlocks h dX7_fault_119
      replace h := ho_in hc3 h
      refine lv_tableOut (tgt := 120) hx hb dX7_fault_64 (by have u0 := ho_ne (n := 0) 0 rfl hc0; have u1 := ho_ne (n := 1) 1 rfl hc1; have u2 := ho_ne (n := 2) 2 rfl hc2; have u3 := ho_ne (n := 3) 3 rfl hc3; omega) (by decide) ?_
      refine lv_iload_n hx hb dX7_fault_120 rfl (lv_at hl 2 rfl) ?_
      exact hw_iret X hP hS hr hlocks h dX7_fault_121
    · replace h := ho_ip hc h
      exact B23 z _ _ _ h hP hS (lv_sub hl [0, 1, 2] rfl)
def f_X7_count_B80 (fu : Nat) (a0 : Nat) (x1 : Int32) (w2 : Int32) (z : hp_S) : Option (Int32 × hp_S) :=
  some (w2, z)
def f_X7_count_B72 (fu : Nat) (a0 : Nat) (x1 : Int32) (ag : Int32 → Int32 → hp_S → Option (Int32 × hp_S)) (kk : Int32 → hp_S → Option (Int32 × hp_S)) (w3 : Int32) (s0 : Int32) (s1 : Int32) (z : hp_S) : Option (Int32 × hp_S) :=
  (ho_id (s1 + s0)).bind fun v7 =>
  (ho_id (w3 + 1)).bind fun v8 =>
  ag v7 v8 z
def f_X7_count_L41 (fu : Nat) (a0 : Nat) (x1 : Int32) (kk : Int32 → hp_S → Option (Int32 × hp_S)) : Nat → Int32 → Int32 → hp_S → Option (Int32 × hp_S)
  | 0, _, _, _ => none
  | n + 1, w2, w3, z =>
    (ho_gi 7 a0 19 z).bind fun v2 =>
    if v2 ≤ w3 then (
      kk w2 z
    ) else (
      (ho_gr 7 a0 21 z).bind fun r3 =>
      (ho_li 1 r3 w3 z).bind fun v4 =>
      (ho_rm v4 1000).bind fun v5 =>
      (ho_dv v5 50).bind fun v6 =>
      if v6 = x1 then (
        f_X7_count_B72 fu a0 x1 (f_X7_count_L41 fu a0 x1 kk n) kk w3 1 w2 z
      ) else (
        f_X7_count_B72 fu a0 x1 (f_X7_count_L41 fu a0 x1 kk n) kk w3 0 w2 z
      )
    )
def f_X7_count_B36 (fu : Nat) (a0 : Nat) (x1 : Int32) (s0 : Int32) (z : hp_S) : Option (Int32 × hp_S) :=
  some (s0, z)
def f_X7_count (fu : Nat) (a0 : Nat) (x1 : Int32) (z : hp_S) : Option (Int32 × hp_S) :=
  (f_X7_isIn fu x1 0 15 z).bind fun ⟨v1, z⟩ =>
  if v1 = 0 then (
    some ((-2), z)
  ) else (
    if x1 < 14 then (
      f_X7_count_L41 fu a0 x1 (f_X7_count_B80 fu a0 x1) fu 0 0 z
    ) else (
      if x1 = 14 then (
        (ho_gi 7 a0 19 z).bind fun v10 =>
        f_X7_count_B36 fu a0 x1 v10 z
      ) else (
        (ho_gi 7 a0 20 z).bind fun v9 =>
        f_X7_count_B36 fu a0 x1 v9 z
      )
    )
  )
set_option maxHeartbeats 4000000 in
set_option maxRecDepth 100000 in
theorem c_X7_count (l : Launch) (G : hp_G) (fu : Nat) (a0 : Nat) (x1 : Int32) (z : hp_S) (rq : Int32) (zq : hp_S) (h : f_X7_count fu a0 x1 z = some (rq, zq)) : hp_M l G yX7_count cX7_count 4 (some .int) 1 22 0 0 [.ref a0, .int x1] z (hp_Qi G rq zq) := by
  refine hp_M.of (by decide) (Nat.le_of_ble_eq_true rfl) ?_
  intro p e s m below meth c X hr hlocks hnm hP hS ls hl
  have X : hp_C G cX7_count RX7 4 p s m c := X
  have hl : lv_has ls 4 [(0, .ref a0), (1, .int x1)] := hl
  have hx := X.1
  have hb := X.2.1
  have B80 : ∀ (w2 : Int32) (z : hp_S) (H : Heap) (locs : List Loc) (ls : Array Slot), f_X7_count_B80 fu a0 x1 w2 z = some (rq, zq) → hp_P G z H → va_S (hp_A G) s.heap H locs → lv_has ls 4 [(0, .ref a0), (1, .int x1), (2, .int w2)] → W p l e (hp_rm 1 22 0 0) s m [.ref a0, .int x1].toArray below meth c H locs 0 0 (MQ below (hp_Qi G rq zq) [.ref a0, .int x1].toArray s 0 0 (hp_A G)) (F0 m 80 ls []) := by
    intro w2 z H locs ls h hP hS hl
    unfold f_X7_count_B80 at h
    refine lv_iload_n hx hb dX7_count_80 rfl (lv_at hl 2 rfl) ?_
    exact hw_iret X hP hS hr hlocks h dX7_count_81
  have L41 : ∀ (n41 : Nat) (w2 : Int32) (w3 : Int32) (z : hp_S) (H : Heap) (locs : List Loc) (ls : Array Slot), f_X7_count_L41 fu a0 x1 (f_X7_count_B80 fu a0 x1) n41 w2 w3 z = some (rq, zq) → hp_P G z H → va_S (hp_A G) s.heap H locs → lv_has ls 4 [(0, .ref a0), (1, .int x1), (2, .int w2), (3, .int w3)] → W p l e (hp_rm 1 22 0 0) s m [.ref a0, .int x1].toArray below meth c H locs 0 0 (MQ below (hp_Qi G rq zq) [.ref a0, .int x1].toArray s 0 0 (hp_A G)) (F0 m 41 ls []) := by
    intro n41
    induction n41 with
    | zero =>
      intro w2 w3 z H locs ls h
      exact nomatch (h : (none : Option (Int32 × hp_S)) = some (rq, zq))
    | succ n41 ih41 =>
      have B72 : ∀ (w3 : Int32) (s0 : Int32) (s1 : Int32) (z : hp_S) (H : Heap) (locs : List Loc) (ls : Array Slot), f_X7_count_B72 fu a0 x1 (f_X7_count_L41 fu a0 x1 (f_X7_count_B80 fu a0 x1) n41) (f_X7_count_B80 fu a0 x1) w3 s0 s1 z = some (rq, zq) → hp_P G z H → va_S (hp_A G) s.heap H locs → lv_has ls 4 [(0, .ref a0), (1, .int x1), (3, .int w3)] → W p l e (hp_rm 1 22 0 0) s m [.ref a0, .int x1].toArray below meth c H locs 0 0 (MQ below (hp_Qi G rq zq) [.ref a0, .int x1].toArray s 0 0 (hp_A G)) (F0 m 72 ls [.int s0, .int s1]) := by
        intro w3 s0 s1 z H locs ls h hP hS hl
        unfold f_X7_count_B72 at h
        refine lv_iadd hx hb dX7_count_72 ?_
        obtain ⟨v7, q, h⟩ := ho_bd h
        refine hw_id q ?_
        refine lv_istore_n (lv' := [(2, .int v7), (0, .ref a0), (1, .int x1), (3, .int w3)]) hx hb dX7_count_73 rfl hl (by decide) rfl (fun ls hl => ?_)
        obtain ⟨v8, q, h⟩ := ho_bd h
        refine lv_iinc (v := v8) (lv' := [(3, .int v8), (2, .int v7), (0, .ref a0), (1, .int x1)]) hx hb dX7_count_74 hl (k := 3) rfl (Option.some.inj q) (by decide) rfl (fun ls hl => ?_)
        refine lv_goto (tgt := 41) hx hb dX7_count_77 (by decide) ?_
        exact ih41 v7 v8 z _ _ _ h hP hS (lv_sub hl [2, 3, 1, 0] rfl)
      intro w2 w3 z H locs ls h hP hS hl
      rw [f_X7_count_L41] at h
      refine lv_iload_n hx hb dX7_count_41 rfl (lv_at hl 3 rfl) ?_
      refine lv_aload_n hx hb dX7_count_42 rfl (lv_at hl 0 rfl) ?_
      obtain ⟨v2, q, h⟩ := ho_bd h
      refine hw_gi X hP LX7 fX7_75 rfl q dX7_count_43 ?_
      refine lv_icmp_ge (tgt := 80) hx hb dX7_count_46 (by decide) (fun hc => ?_) (fun hc => ?_)
      · replace h := ho_ip hc h
        exact B80 w2 z _ _ _ h hP hS (lv_sub hl [0, 1, 2] rfl)
      · replace h := ho_in hc h
        refine lv_iload_n hx hb dX7_count_49 rfl (lv_at hl 2 rfl) ?_
        refine lv_aload_n hx hb dX7_count_50 rfl (lv_at hl 0 rfl) ?_
        obtain ⟨r3, q, h⟩ := ho_bd h
        refine hw_gr X hP LX7 fX7_50 rfl q dX7_count_51 ?_
        refine lv_iload_n hx hb dX7_count_54 rfl (lv_at hl 3 rfl) ?_
        obtain ⟨v4, q, h⟩ := ho_bd h
        refine hw_li X hP q dX7_count_55 ?_
        refine lv_sipush (v := 1000) hx hb dX7_count_56 (by decide) ?_
        obtain ⟨v5, q, h⟩ := ho_bd h
        refine hw_rm X q dX7_count_59 ?_
        refine lv_bipush (v := 50) hx hb dX7_count_60 (by decide) ?_
        obtain ⟨v6, q, h⟩ := ho_bd h
        refine hw_dv X q dX7_count_62 ?_
        refine lv_iload_n hx hb dX7_count_63 rfl (lv_at hl 1 rfl) ?_
        refine lv_icmp_ne (tgt := 71) hx hb dX7_count_64 (by decide) (fun hc => ?_) (fun hc => ?_)
        · replace h := ho_in hc h
          refine lv_iconst (v := 0) hx hb dX7_count_71 (by decide) ?_
          exact B72 w3 0 w2 z _ _ _ h hP hS (lv_sub hl [0, 1, 3] rfl)
        · replace h := ho_ip hc h
          refine lv_iconst (v := 1) hx hb dX7_count_67 (by decide) ?_
          refine lv_goto (tgt := 72) hx hb dX7_count_68 (by decide) ?_
          exact B72 w3 1 w2 z _ _ _ h hP hS (lv_sub hl [0, 1, 3] rfl)
  have B36 : ∀ (s0 : Int32) (z : hp_S) (H : Heap) (locs : List Loc) (ls : Array Slot), f_X7_count_B36 fu a0 x1 s0 z = some (rq, zq) → hp_P G z H → va_S (hp_A G) s.heap H locs → lv_has ls 4 [(0, .ref a0), (1, .int x1)] → W p l e (hp_rm 1 22 0 0) s m [.ref a0, .int x1].toArray below meth c H locs 0 0 (MQ below (hp_Qi G rq zq) [.ref a0, .int x1].toArray s 0 0 (hp_A G)) (F0 m 36 ls [.int s0]) := by
    intro s0 z H locs ls h hP hS hl
    unfold f_X7_count_B36 at h
    exact hw_iret X hP hS hr hlocks h dX7_count_36
  unfold f_X7_count at h
  refine lv_iload_n hx hb dX7_count_0 rfl (lv_at hl 1 rfl) ?_
  refine lv_iconst (v := 0) hx hb dX7_count_1 (by decide) ?_
  refine lv_bipush (v := 15) hx hb dX7_count_2 (by decide) ?_
  obtain ⟨⟨v1, z⟩, q, h⟩ := ho_bd h
  refine hw_ci hS (hp_runS (As := [.int x1, .int 0, .int 15]) (rest := []) X hP hS hl.1 kX7_81 m3_183 (c_X7_isIn l G fu x1 0 15 _ _ _ q) rfl (Nat.le_of_ble_eq_true rfl) ⟨⟨Nat.le_of_ble_eq_true rfl, Nat.le_of_ble_eq_true rfl⟩, Nat.le_of_ble_eq_true rfl, Nat.le_of_ble_eq_true rfl⟩ dX7_count_4) (fun H locs hP hS => ?_)
  refine lv_if_ne (tgt := 13) hx hb dX7_count_7 (by decide) (fun hc => ?_) (fun hc => ?_)
  · replace h := ho_in hc h
    refine lv_iload_n hx hb dX7_count_13 rfl (lv_at hl 1 rfl) ?_
    refine lv_bipush (v := 14) hx hb dX7_count_14 (by decide) ?_
    refine lv_icmp_lt (tgt := 37) hx hb dX7_count_16 (by decide) (fun hc => ?_) (fun hc => ?_)
    · replace h := ho_ip hc h
      refine lv_iconst (v := 0) hx hb dX7_count_37 (by decide) ?_
      refine lv_istore_n (lv' := [(2, .int 0), (0, .ref a0), (1, .int x1)]) hx hb dX7_count_38 rfl hl (by decide) rfl (fun ls hl => ?_)
      refine lv_iconst (v := 0) hx hb dX7_count_39 (by decide) ?_
      refine lv_istore_n (lv' := [(3, .int 0), (2, .int 0), (0, .ref a0), (1, .int x1)]) hx hb dX7_count_40 rfl hl (by decide) rfl (fun ls hl => ?_)
      exact L41 fu 0 0 z _ _ _ h hP hS (lv_sub hl [2, 3, 1, 0] rfl)
    · replace h := ho_in hc h
      refine lv_iload_n hx hb dX7_count_19 rfl (lv_at hl 1 rfl) ?_
      refine lv_bipush (v := 14) hx hb dX7_count_20 (by decide) ?_
      refine lv_icmp_ne (tgt := 32) hx hb dX7_count_22 (by decide) (fun hc => ?_) (fun hc => ?_)
      · replace h := ho_in hc h
        refine lv_aload_n hx hb dX7_count_32 rfl (lv_at hl 0 rfl) ?_
        obtain ⟨v9, q, h⟩ := ho_bd h
        refine hw_gi X hP LX7 fX7_78 rfl q dX7_count_33 ?_
        exact B36 v9 z _ _ _ h hP hS (lv_sub hl [0, 1] rfl)
      · replace h := ho_ip hc h
        refine lv_aload_n hx hb dX7_count_25 rfl (lv_at hl 0 rfl) ?_
        obtain ⟨v10, q, h⟩ := ho_bd h
        refine hw_gi X hP LX7 fX7_75 rfl q dX7_count_26 ?_
        refine lv_goto (tgt := 36) hx hb dX7_count_29 (by decide) ?_
        exact B36 v10 z _ _ _ h hP hS (lv_sub hl [0, 1] rfl)
  · replace h := ho_ip hc h
    refine lv_bipush (v := (-2)) hx hb dX7_count_10 (by decide) ?_
    exact hw_iret X hP hS hr hlocks h dX7_count_12
def f_X7_moments (fu : Nat) (a0 : Nat) (z : hp_S) : Option (Int32 × hp_S) :=
  (ho_is 7 a0 z).bind fun _ =>
  (f_X7_learn fu a0 z).bind fun z =>
  (ho_gi 7 a0 16 z).bind fun v1 =>
  some (v1, z)
set_option maxHeartbeats 4000000 in
set_option maxRecDepth 100000 in
theorem c_X7_moments (l : Launch) (G : hp_G) (fu : Nat) (a0 : Nat) (z : hp_S) (rq : Int32) (zq : hp_S) (h : f_X7_moments fu a0 z = some (rq, zq)) : hp_M l G yX7_moments cX7_moments 1 (some .int) 1 25 0 0 [.ref a0] z (hp_Qi G rq zq) := by
  refine hp_M.of (by decide) (Nat.le_of_ble_eq_true rfl) ?_
  intro p e s m below meth c X hr hlocks hnm hP hS ls hl
  have X : hp_C G cX7_moments RX7 1 p s m c := X
  have hl : lv_has ls 1 [(0, .ref a0)] := hl
  have hx := X.1
  have hb := X.2.1
  unfold f_X7_moments at h
  refine lv_aload_n hx hb dX7_moments_0 rfl (lv_at hl 0 rfl) ?_
  obtain ⟨_, hs, h⟩ := ho_bd h
  obtain ⟨z, q, h⟩ := ho_bd h
  refine hw_cv hS (hp_runV (As := []) (rest := []) X hP hS hl.1 LX7 (ho_is_s hs) kX7_103 ⟨m3_226, mp_24⟩ (c_X7_learn l G fu a0 _ _ q) rfl (Nat.le_of_ble_eq_true rfl) ⟨⟨Nat.le_of_ble_eq_true rfl, Nat.le_of_ble_eq_true rfl⟩, Nat.le_of_ble_eq_true rfl, Nat.le_of_ble_eq_true rfl⟩ dX7_moments_1) (fun H locs hP hS => ?_)
  refine lv_aload_n hx hb dX7_moments_4 rfl (lv_at hl 0 rfl) ?_
  obtain ⟨v1, q, h⟩ := ho_bd h
  refine hw_gi X hP LX7 fX7_100 rfl q dX7_moments_5 ?_
  exact hw_iret X hP hS hr hlocks h dX7_moments_8
def f_X7_time_B29 (fu : Nat) (a0 : Nat) (x1 : Int32) (s0 : Int32) (z : hp_S) : Option (Int32 × hp_S) :=
  some (s0, z)
def f_X7_time (fu : Nat) (a0 : Nat) (x1 : Int32) (z : hp_S) : Option (Int32 × hp_S) :=
  (ho_is 7 a0 z).bind fun _ =>
  (f_X7_learn fu a0 z).bind fun z =>
  (ho_gi 7 a0 16 z).bind fun v1 =>
  (f_X7_isIn fu x1 0 (v1 - 1) z).bind fun ⟨v2, z⟩ =>
  if v2 = 0 then (
    f_X7_time_B29 fu a0 x1 (-2) z
  ) else (
    (ho_gr 7 a0 17 z).bind fun r3 =>
    (ho_li 1 r3 x1 z).bind fun v4 =>
    f_X7_time_B29 fu a0 x1 v4 z
  )
set_option maxHeartbeats 4000000 in
set_option maxRecDepth 100000 in
theorem c_X7_time (l : Launch) (G : hp_G) (fu : Nat) (a0 : Nat) (x1 : Int32) (z : hp_S) (rq : Int32) (zq : hp_S) (h : f_X7_time fu a0 x1 z = some (rq, zq)) : hp_M l G yX7_time cX7_time 2 (some .int) 1 25 0 0 [.ref a0, .int x1] z (hp_Qi G rq zq) := by
  refine hp_M.of (by decide) (Nat.le_of_ble_eq_true rfl) ?_
  intro p e s m below meth c X hr hlocks hnm hP hS ls hl
  have X : hp_C G cX7_time RX7 2 p s m c := X
  have hl : lv_has ls 2 [(0, .ref a0), (1, .int x1)] := hl
  have hx := X.1
  have hb := X.2.1
  have B29 : ∀ (s0 : Int32) (z : hp_S) (H : Heap) (locs : List Loc) (ls : Array Slot), f_X7_time_B29 fu a0 x1 s0 z = some (rq, zq) → hp_P G z H → va_S (hp_A G) s.heap H locs → lv_has ls 2 [(0, .ref a0), (1, .int x1)] → W p l e (hp_rm 1 25 0 0) s m [.ref a0, .int x1].toArray below meth c H locs 0 0 (MQ below (hp_Qi G rq zq) [.ref a0, .int x1].toArray s 0 0 (hp_A G)) (F0 m 29 ls [.int s0]) := by
    intro s0 z H locs ls h hP hS hl
    unfold f_X7_time_B29 at h
    exact hw_iret X hP hS hr hlocks h dX7_time_29
  unfold f_X7_time at h
  refine lv_aload_n hx hb dX7_time_0 rfl (lv_at hl 0 rfl) ?_
  obtain ⟨_, hs, h⟩ := ho_bd h
  obtain ⟨z, q, h⟩ := ho_bd h
  refine hw_cv hS (hp_runV (As := []) (rest := []) X hP hS hl.1 LX7 (ho_is_s hs) kX7_103 ⟨m3_226, mp_24⟩ (c_X7_learn l G fu a0 _ _ q) rfl (Nat.le_of_ble_eq_true rfl) ⟨⟨Nat.le_of_ble_eq_true rfl, Nat.le_of_ble_eq_true rfl⟩, Nat.le_of_ble_eq_true rfl, Nat.le_of_ble_eq_true rfl⟩ dX7_time_1) (fun H locs hP hS => ?_)
  refine lv_iload_n hx hb dX7_time_4 rfl (lv_at hl 1 rfl) ?_
  refine lv_iconst (v := 0) hx hb dX7_time_5 (by decide) ?_
  refine lv_aload_n hx hb dX7_time_6 rfl (lv_at hl 0 rfl) ?_
  obtain ⟨v1, q, h⟩ := ho_bd h
  refine hw_gi X hP LX7 fX7_100 rfl q dX7_time_7 ?_
  refine lv_iconst (v := 1) hx hb dX7_time_10 (by decide) ?_
  refine lv_isub hx hb dX7_time_11 ?_
  obtain ⟨⟨v2, z⟩, q, h⟩ := ho_bd h
  refine hw_ci hS (hp_runS (As := [.int x1, .int 0, .int (v1 - 1)]) (rest := []) X hP hS hl.1 kX7_81 m3_183 (c_X7_isIn l G fu x1 0 (v1 - 1) _ _ _ q) rfl (Nat.le_of_ble_eq_true rfl) ⟨⟨Nat.le_of_ble_eq_true rfl, Nat.le_of_ble_eq_true rfl⟩, Nat.le_of_ble_eq_true rfl, Nat.le_of_ble_eq_true rfl⟩ dX7_time_12) (fun H locs hP hS => ?_)
  refine lv_if_eq (tgt := 27) hx hb dX7_time_15 (by decide) (fun hc => ?_) (fun hc => ?_)
  · replace h := ho_ip hc h
    refine lv_bipush (v := (-2)) hx hb dX7_time_27 (by decide) ?_
    exact B29 (-2) z _ _ _ h hP hS (lv_sub hl [0, 1] rfl)
  · replace h := ho_in hc h
    refine lv_aload_n hx hb dX7_time_18 rfl (lv_at hl 0 rfl) ?_
    obtain ⟨r3, q, h⟩ := ho_bd h
    refine hw_gr X hP LX7 fX7_44 rfl q dX7_time_19 ?_
    refine lv_iload_n hx hb dX7_time_22 rfl (lv_at hl 1 rfl) ?_
    obtain ⟨v4, q, h⟩ := ho_bd h
    refine hw_li X hP q dX7_time_23 ?_
    refine lv_goto (tgt := 29) hx hb dX7_time_24 (by decide) ?_
    exact B29 v4 z _ _ _ h hP hS (lv_sub hl [0, 1] rfl)
def f_X7_height_B26 (fu : Nat) (a0 : Nat) (x1 : Int32) (x2 : Int32) (z : hp_S) : Option (Int32 × hp_S) :=
  some ((-2), z)
def f_X7_height_B54 (fu : Nat) (a0 : Nat) (x1 : Int32) (x2 : Int32) (s0 : Int32) (z : hp_S) : Option (Int32 × hp_S) :=
  some (s0, z)
def f_X7_height (fu : Nat) (a0 : Nat) (x1 : Int32) (x2 : Int32) (z : hp_S) : Option (Int32 × hp_S) :=
  (ho_is 7 a0 z).bind fun _ =>
  (f_X7_learn fu a0 z).bind fun z =>
  (ho_is 7 a0 z).bind fun _ =>
  (f_X7_isVoice fu a0 x1 z).bind fun ⟨v1, z⟩ =>
  if v1 = 0 then (
    f_X7_height_B26 fu a0 x1 x2  z
  ) else (
    (ho_gi 7 a0 16 z).bind fun v2 =>
    (f_X7_isIn fu x2 0 (v2 - 1) z).bind fun ⟨v3, z⟩ =>
    if v3 = 0 then (
      f_X7_height_B26 fu a0 x1 x2  z
    ) else (
      (ho_is 7 a0 z).bind fun _ =>
      (f_X7_at fu a0 x1 x2 z).bind fun ⟨v4, z⟩ =>
      if v4 = (-1) then (
        f_X7_height_B54 fu a0 x1 x2 (-100) z
      ) else (
        (ho_is 7 a0 z).bind fun _ =>
        (f_X7_at fu a0 x1 x2 z).bind fun ⟨v5, z⟩ =>
        (ho_is 7 a0 z).bind fun _ =>
        (f_X7_heightOf fu a0 v5 z).bind fun ⟨v6, z⟩ =>
        f_X7_height_B54 fu a0 x1 x2 v6 z
      )
    )
  )
set_option maxHeartbeats 4000000 in
set_option maxRecDepth 100000 in
theorem c_X7_height (l : Launch) (G : hp_G) (fu : Nat) (a0 : Nat) (x1 : Int32) (x2 : Int32) (z : hp_S) (rq : Int32) (zq : hp_S) (h : f_X7_height fu a0 x1 x2 z = some (rq, zq)) : hp_M l G yX7_height cX7_height 3 (some .int) 2 43 0 0 [.ref a0, .int x1, .int x2] z (hp_Qi G rq zq) := by
  refine hp_M.of (by decide) (Nat.le_of_ble_eq_true rfl) ?_
  intro p e s m below meth c X hr hlocks hnm hP hS ls hl
  have X : hp_C G cX7_height RX7 3 p s m c := X
  have hl : lv_has ls 3 [(0, .ref a0), (1, .int x1), (2, .int x2)] := hl
  have hx := X.1
  have hb := X.2.1
  have B26 : ∀ (z : hp_S) (H : Heap) (locs : List Loc) (ls : Array Slot), f_X7_height_B26 fu a0 x1 x2 z = some (rq, zq) → hp_P G z H → va_S (hp_A G) s.heap H locs → lv_has ls 3 [(0, .ref a0), (1, .int x1), (2, .int x2)] → W p l e (hp_rm 2 43 0 0) s m [.ref a0, .int x1, .int x2].toArray below meth c H locs 0 0 (MQ below (hp_Qi G rq zq) [.ref a0, .int x1, .int x2].toArray s 0 0 (hp_A G)) (F0 m 26 ls []) := by
    intro z H locs ls h hP hS hl
    unfold f_X7_height_B26 at h
    refine lv_bipush (v := (-2)) hx hb dX7_height_26 (by decide) ?_
    exact hw_iret X hP hS hr hlocks h dX7_height_28
  have B54 : ∀ (s0 : Int32) (z : hp_S) (H : Heap) (locs : List Loc) (ls : Array Slot), f_X7_height_B54 fu a0 x1 x2 s0 z = some (rq, zq) → hp_P G z H → va_S (hp_A G) s.heap H locs → lv_has ls 3 [(0, .ref a0), (1, .int x1), (2, .int x2)] → W p l e (hp_rm 2 43 0 0) s m [.ref a0, .int x1, .int x2].toArray below meth c H locs 0 0 (MQ below (hp_Qi G rq zq) [.ref a0, .int x1, .int x2].toArray s 0 0 (hp_A G)) (F0 m 54 ls [.int s0]) := by
    intro s0 z H locs ls h hP hS hl
    unfold f_X7_height_B54 at h
    exact hw_iret X hP hS hr hlocks h dX7_height_54
  unfold f_X7_height at h
  refine lv_aload_n hx hb dX7_height_0 rfl (lv_at hl 0 rfl) ?_
  obtain ⟨_, hs, h⟩ := ho_bd h
  obtain ⟨z, q, h⟩ := ho_bd h
  refine hw_cv hS (hp_runV (As := []) (rest := []) X hP hS hl.1 LX7 (ho_is_s hs) kX7_103 ⟨m3_226, mp_24⟩ (c_X7_learn l G fu a0 _ _ q) rfl (Nat.le_of_ble_eq_true rfl) ⟨⟨Nat.le_of_ble_eq_true rfl, Nat.le_of_ble_eq_true rfl⟩, Nat.le_of_ble_eq_true rfl, Nat.le_of_ble_eq_true rfl⟩ dX7_height_1) (fun H locs hP hS => ?_)
  refine lv_aload_n hx hb dX7_height_4 rfl (lv_at hl 0 rfl) ?_
  refine lv_iload_n hx hb dX7_height_5 rfl (lv_at hl 1 rfl) ?_
  obtain ⟨_, hs, h⟩ := ho_bd h
  obtain ⟨⟨v1, z⟩, q, h⟩ := ho_bd h
  refine hw_ci hS (hp_runV (As := [.int x1]) (rest := []) X hP hS hl.1 LX7 (ho_is_s hs) kX7_85 ⟨m3_180, mp_21⟩ (c_X7_isVoice l G fu a0 x1 _ _ _ q) rfl (Nat.le_of_ble_eq_true rfl) ⟨⟨Nat.le_of_ble_eq_true rfl, Nat.le_of_ble_eq_true rfl⟩, Nat.le_of_ble_eq_true rfl, Nat.le_of_ble_eq_true rfl⟩ dX7_height_6) (fun H locs hP hS => ?_)
  refine lv_if_eq (tgt := 26) hx hb dX7_height_9 (by decide) (fun hc => ?_) (fun hc => ?_)
  · replace h := ho_ip hc h
    exact B26 z _ _ _ h hP hS (lv_sub hl [0, 1, 2] rfl)
  · replace h := ho_in hc h
    refine lv_iload_n hx hb dX7_height_12 rfl (lv_at hl 2 rfl) ?_
    refine lv_iconst (v := 0) hx hb dX7_height_13 (by decide) ?_
    refine lv_aload_n hx hb dX7_height_14 rfl (lv_at hl 0 rfl) ?_
    obtain ⟨v2, q, h⟩ := ho_bd h
    refine hw_gi X hP LX7 fX7_100 rfl q dX7_height_15 ?_
    refine lv_iconst (v := 1) hx hb dX7_height_18 (by decide) ?_
    refine lv_isub hx hb dX7_height_19 ?_
    obtain ⟨⟨v3, z⟩, q, h⟩ := ho_bd h
    refine hw_ci hS (hp_runS (As := [.int x2, .int 0, .int (v2 - 1)]) (rest := []) X hP hS hl.1 kX7_81 m3_183 (c_X7_isIn l G fu x2 0 (v2 - 1) _ _ _ q) rfl (Nat.le_of_ble_eq_true rfl) ⟨⟨Nat.le_of_ble_eq_true rfl, Nat.le_of_ble_eq_true rfl⟩, Nat.le_of_ble_eq_true rfl, Nat.le_of_ble_eq_true rfl⟩ dX7_height_20) (fun H locs hP hS => ?_)
    refine lv_if_ne (tgt := 29) hx hb dX7_height_23 (by decide) (fun hc => ?_) (fun hc => ?_)
    · replace h := ho_in hc h
      refine lv_aload_n hx hb dX7_height_29 rfl (lv_at hl 0 rfl) ?_
      refine lv_iload_n hx hb dX7_height_30 rfl (lv_at hl 1 rfl) ?_
      refine lv_iload_n hx hb dX7_height_31 rfl (lv_at hl 2 rfl) ?_
      obtain ⟨_, hs, h⟩ := ho_bd h
      obtain ⟨⟨v4, z⟩, q, h⟩ := ho_bd h
      refine hw_ci hS (hp_runV (As := [.int x1, .int x2]) (rest := []) X hP hS hl.1 LX7 (ho_is_s hs) kX7_110 ⟨m4_21, mp_29⟩ (c_X7_at l G fu a0 x1 x2 _ _ _ q) rfl (Nat.le_of_ble_eq_true rfl) ⟨⟨Nat.le_of_ble_eq_true rfl, Nat.le_of_ble_eq_true rfl⟩, Nat.le_of_ble_eq_true rfl, Nat.le_of_ble_eq_true rfl⟩ dX7_height_32) (fun H locs hP hS => ?_)
      refine lv_iconst (v := (-1)) hx hb dX7_height_35 (by decide) ?_
      refine lv_icmp_ne (tgt := 44) hx hb dX7_height_36 (by decide) (fun hc => ?_) (fun hc => ?_)
      · replace h := ho_in hc h
        refine lv_aload_n hx hb dX7_height_44 rfl (lv_at hl 0 rfl) ?_
        refine lv_aload_n hx hb dX7_height_45 rfl (lv_at hl 0 rfl) ?_
        refine lv_iload_n hx hb dX7_height_46 rfl (lv_at hl 1 rfl) ?_
        refine lv_iload_n hx hb dX7_height_47 rfl (lv_at hl 2 rfl) ?_
        obtain ⟨_, hs, h⟩ := ho_bd h
        obtain ⟨⟨v5, z⟩, q, h⟩ := ho_bd h
        refine hw_ci hS (hp_runV (As := [.int x1, .int x2]) (rest := [.ref a0]) X hP hS hl.1 LX7 (ho_is_s hs) kX7_110 ⟨m4_21, mp_29⟩ (c_X7_at l G fu a0 x1 x2 _ _ _ q) rfl (Nat.le_of_ble_eq_true rfl) ⟨⟨Nat.le_of_ble_eq_true rfl, Nat.le_of_ble_eq_true rfl⟩, Nat.le_of_ble_eq_true rfl, Nat.le_of_ble_eq_true rfl⟩ dX7_height_48) (fun H locs hP hS => ?_)
        obtain ⟨_, hs, h⟩ := ho_bd h
        obtain ⟨⟨v6, z⟩, q, h⟩ := ho_bd h
        refine hw_ci hS (hp_runV (As := [.int v5]) (rest := []) X hP hS hl.1 LX7 (ho_is_s hs) kX7_97 ⟨m3_215, mp_23⟩ (c_X7_heightOf l G fu a0 v5 _ _ _ q) rfl (Nat.le_of_ble_eq_true rfl) ⟨⟨Nat.le_of_ble_eq_true rfl, Nat.le_of_ble_eq_true rfl⟩, Nat.le_of_ble_eq_true rfl, Nat.le_of_ble_eq_true rfl⟩ dX7_height_51) (fun H locs hP hS => ?_)
        exact B54 v6 z _ _ _ h hP hS (lv_sub hl [0, 1, 2] rfl)
      · replace h := ho_ip hc h
        refine lv_bipush (v := (-100)) hx hb dX7_height_39 (by decide) ?_
        refine lv_goto (tgt := 54) hx hb dX7_height_41 (by decide) ?_
        exact B54 (-100) z _ _ _ h hP hS (lv_sub hl [0, 1, 2] rfl)
    · replace h := ho_ip hc h
      exact B26 z _ _ _ h hP hS (lv_sub hl [0, 1, 2] rfl)
def f_X7_interval_B39 (fu : Nat) (a0 : Nat) (x1 : Int32) (x2 : Int32) (x3 : Int32) (z : hp_S) : Option (Int32 × hp_S) :=
  some ((-2), z)
def f_X7_interval (fu : Nat) (a0 : Nat) (x1 : Int32) (x2 : Int32) (x3 : Int32) (z : hp_S) : Option (Int32 × hp_S) :=
  (ho_is 7 a0 z).bind fun _ =>
  (f_X7_learn fu a0 z).bind fun z =>
  (ho_is 7 a0 z).bind fun _ =>
  (f_X7_isVoice fu a0 x1 z).bind fun ⟨v1, z⟩ =>
  if v1 = 0 then (
    f_X7_interval_B39 fu a0 x1 x2 x3  z
  ) else (
    (ho_is 7 a0 z).bind fun _ =>
    (f_X7_isVoice fu a0 x2 z).bind fun ⟨v2, z⟩ =>
    if v2 = 0 then (
      f_X7_interval_B39 fu a0 x1 x2 x3  z
    ) else (
      if x2 ≤ x1 then (
        f_X7_interval_B39 fu a0 x1 x2 x3  z
      ) else (
        (ho_gi 7 a0 16 z).bind fun v3 =>
        (f_X7_isIn fu x3 0 (v3 - 1) z).bind fun ⟨v4, z⟩ =>
        if v4 = 0 then (
          f_X7_interval_B39 fu a0 x1 x2 x3  z
        ) else (
          (ho_is 7 a0 z).bind fun _ =>
          (f_X7_which fu a0 x1 x2 x3 z).bind fun ⟨v5, z⟩ =>
          some (v5, z)
        )
      )
    )
  )
set_option maxHeartbeats 4000000 in
set_option maxRecDepth 100000 in
theorem c_X7_interval (l : Launch) (G : hp_G) (fu : Nat) (a0 : Nat) (x1 : Int32) (x2 : Int32) (x3 : Int32) (z : hp_S) (rq : Int32) (zq : hp_S) (h : f_X7_interval fu a0 x1 x2 x3 z = some (rq, zq)) : hp_M l G yX7_interval cX7_interval 4 (some .int) 4 89 0 0 [.ref a0, .int x1, .int x2, .int x3] z (hp_Qi G rq zq) := by
  refine hp_M.of (by decide) (Nat.le_of_ble_eq_true rfl) ?_
  intro p e s m below meth c X hr hlocks hnm hP hS ls hl
  have X : hp_C G cX7_interval RX7 4 p s m c := X
  have hl : lv_has ls 4 [(0, .ref a0), (1, .int x1), (2, .int x2), (3, .int x3)] := hl
  have hx := X.1
  have hb := X.2.1
  have B39 : ∀ (z : hp_S) (H : Heap) (locs : List Loc) (ls : Array Slot), f_X7_interval_B39 fu a0 x1 x2 x3 z = some (rq, zq) → hp_P G z H → va_S (hp_A G) s.heap H locs → lv_has ls 4 [(0, .ref a0), (1, .int x1), (2, .int x2), (3, .int x3)] → W p l e (hp_rm 4 89 0 0) s m [.ref a0, .int x1, .int x2, .int x3].toArray below meth c H locs 0 0 (MQ below (hp_Qi G rq zq) [.ref a0, .int x1, .int x2, .int x3].toArray s 0 0 (hp_A G)) (F0 m 39 ls []) := by
    intro z H locs ls h hP hS hl
    unfold f_X7_interval_B39 at h
    refine lv_bipush (v := (-2)) hx hb dX7_interval_39 (by decide) ?_
    exact hw_iret X hP hS hr hlocks h dX7_interval_41
  unfold f_X7_interval at h
  refine lv_aload_n hx hb dX7_interval_0 rfl (lv_at hl 0 rfl) ?_
  obtain ⟨_, hs, h⟩ := ho_bd h
  obtain ⟨z, q, h⟩ := ho_bd h
  refine hw_cv hS (hp_runV (As := []) (rest := []) X hP hS hl.1 LX7 (ho_is_s hs) kX7_103 ⟨m3_226, mp_24⟩ (c_X7_learn l G fu a0 _ _ q) rfl (Nat.le_of_ble_eq_true rfl) ⟨⟨Nat.le_of_ble_eq_true rfl, Nat.le_of_ble_eq_true rfl⟩, Nat.le_of_ble_eq_true rfl, Nat.le_of_ble_eq_true rfl⟩ dX7_interval_1) (fun H locs hP hS => ?_)
  refine lv_aload_n hx hb dX7_interval_4 rfl (lv_at hl 0 rfl) ?_
  refine lv_iload_n hx hb dX7_interval_5 rfl (lv_at hl 1 rfl) ?_
  obtain ⟨_, hs, h⟩ := ho_bd h
  obtain ⟨⟨v1, z⟩, q, h⟩ := ho_bd h
  refine hw_ci hS (hp_runV (As := [.int x1]) (rest := []) X hP hS hl.1 LX7 (ho_is_s hs) kX7_85 ⟨m3_180, mp_21⟩ (c_X7_isVoice l G fu a0 x1 _ _ _ q) rfl (Nat.le_of_ble_eq_true rfl) ⟨⟨Nat.le_of_ble_eq_true rfl, Nat.le_of_ble_eq_true rfl⟩, Nat.le_of_ble_eq_true rfl, Nat.le_of_ble_eq_true rfl⟩ dX7_interval_6) (fun H locs hP hS => ?_)
  refine lv_if_eq (tgt := 39) hx hb dX7_interval_9 (by decide) (fun hc => ?_) (fun hc => ?_)
  · replace h := ho_ip hc h
    exact B39 z _ _ _ h hP hS (lv_sub hl [0, 1, 2, 3] rfl)
  · replace h := ho_in hc h
    refine lv_aload_n hx hb dX7_interval_12 rfl (lv_at hl 0 rfl) ?_
    refine lv_iload_n hx hb dX7_interval_13 rfl (lv_at hl 2 rfl) ?_
    obtain ⟨_, hs, h⟩ := ho_bd h
    obtain ⟨⟨v2, z⟩, q, h⟩ := ho_bd h
    refine hw_ci hS (hp_runV (As := [.int x2]) (rest := []) X hP hS hl.1 LX7 (ho_is_s hs) kX7_85 ⟨m3_180, mp_21⟩ (c_X7_isVoice l G fu a0 x2 _ _ _ q) rfl (Nat.le_of_ble_eq_true rfl) ⟨⟨Nat.le_of_ble_eq_true rfl, Nat.le_of_ble_eq_true rfl⟩, Nat.le_of_ble_eq_true rfl, Nat.le_of_ble_eq_true rfl⟩ dX7_interval_14) (fun H locs hP hS => ?_)
    refine lv_if_eq (tgt := 39) hx hb dX7_interval_17 (by decide) (fun hc => ?_) (fun hc => ?_)
    · replace h := ho_ip hc h
      exact B39 z _ _ _ h hP hS (lv_sub hl [0, 1, 2, 3] rfl)
    · replace h := ho_in hc h
      refine lv_iload_n hx hb dX7_interval_20 rfl (lv_at hl 1 rfl) ?_
      refine lv_iload_n hx hb dX7_interval_21 rfl (lv_at hl 2 rfl) ?_
      refine lv_icmp_ge (tgt := 39) hx hb dX7_interval_22 (by decide) (fun hc => ?_) (fun hc => ?_)
      · replace h := ho_ip hc h
        exact B39 z _ _ _ h hP hS (lv_sub hl [0, 1, 2, 3] rfl)
      · replace h := ho_in hc h
        refine lv_iload_n hx hb dX7_interval_25 rfl (lv_at hl 3 rfl) ?_
        refine lv_iconst (v := 0) hx hb dX7_interval_26 (by decide) ?_
        refine lv_aload_n hx hb dX7_interval_27 rfl (lv_at hl 0 rfl) ?_
        obtain ⟨v3, q, h⟩ := ho_bd h
        refine hw_gi X hP LX7 fX7_100 rfl q dX7_interval_28 ?_
        refine lv_iconst (v := 1) hx hb dX7_interval_31 (by decide) ?_
        refine lv_isub hx hb dX7_interval_32 ?_
        obtain ⟨⟨v4, z⟩, q, h⟩ := ho_bd h
        refine hw_ci hS (hp_runS (As := [.int x3, .int 0, .int (v3 - 1)]) (rest := []) X hP hS hl.1 kX7_81 m3_183 (c_X7_isIn l G fu x3 0 (v3 - 1) _ _ _ q) rfl (Nat.le_of_ble_eq_true rfl) ⟨⟨Nat.le_of_ble_eq_true rfl, Nat.le_of_ble_eq_true rfl⟩, Nat.le_of_ble_eq_true rfl, Nat.le_of_ble_eq_true rfl⟩ dX7_interval_33) (fun H locs hP hS => ?_)
        refine lv_if_ne (tgt := 42) hx hb dX7_interval_36 (by decide) (fun hc => ?_) (fun hc => ?_)
        · replace h := ho_in hc h
          refine lv_aload_n hx hb dX7_interval_42 rfl (lv_at hl 0 rfl) ?_
          refine lv_iload_n hx hb dX7_interval_43 rfl (lv_at hl 1 rfl) ?_
          refine lv_iload_n hx hb dX7_interval_44 rfl (lv_at hl 2 rfl) ?_
          refine lv_iload_n hx hb dX7_interval_45 rfl (lv_at hl 3 rfl) ?_
          obtain ⟨_, hs, h⟩ := ho_bd h
          obtain ⟨⟨v5, z⟩, q, h⟩ := ho_bd h
          refine hw_ci hS (hp_runV (As := [.int x1, .int x2, .int x3]) (rest := []) X hP hS hl.1 LX7 (ho_is_s hs) kX7_134 ⟨m4_56, mp_37⟩ (c_X7_which l G fu a0 x1 x2 x3 _ _ _ q) rfl (Nat.le_of_ble_eq_true rfl) ⟨⟨Nat.le_of_ble_eq_true rfl, Nat.le_of_ble_eq_true rfl⟩, Nat.le_of_ble_eq_true rfl, Nat.le_of_ble_eq_true rfl⟩ dX7_interval_46) (fun H locs hP hS => ?_)
          exact hw_iret X hP hS hr hlocks h dX7_interval_49
        · replace h := ho_ip hc h
          exact B39 z _ _ _ h hP hS (lv_sub hl [0, 1, 2, 3] rfl)
def f_X7_event_B33 (fu : Nat) (a0 : Nat) (x1 : Int32) (x2 : Int32) (x3 : Int32) (z : hp_S) : Option (Int32 × hp_S) :=
  some ((-2), z)
def f_X7_event_B97 (fu : Nat) (a0 : Nat) (x1 : Int32) (x2 : Int32) (x3 : Int32) (s0 : Int32) (z : hp_S) : Option (Int32 × hp_S) :=
  some (s0, z)
def f_X7_event (fu : Nat) (a0 : Nat) (x1 : Int32) (x2 : Int32) (x3 : Int32) (z : hp_S) : Option (Int32 × hp_S) :=
  (ho_is 7 a0 z).bind fun _ =>
  (f_X7_isVoice fu a0 x1 z).bind fun ⟨v1, z⟩ =>
  if v1 = 0 then (
    f_X7_event_B33 fu a0 x1 x2 x3  z
  ) else (
    (ho_gr 7 a0 1 z).bind fun r2 =>
    (ho_li 1 r2 x1 z).bind fun v3 =>
    (f_X7_isIn fu x2 0 (v3 - 1) z).bind fun ⟨v4, z⟩ =>
    if v4 = 0 then (
      f_X7_event_B33 fu a0 x1 x2 x3  z
    ) else (
      (f_X7_isIn fu x3 0 2 z).bind fun ⟨v5, z⟩ =>
      if v5 = 0 then (
        f_X7_event_B33 fu a0 x1 x2 x3  z
      ) else (
        (ho_id ((24 * x1) + x2)).bind fun v6 =>
        if x3 = 0 then (
          (ho_gr 7 a0 2 z).bind fun r13 =>
          (ho_li 1 r13 v6 z).bind fun v14 =>
          f_X7_event_B97 fu a0 x1 x2 x3 v14 z
        ) else (
          if x3 = 1 then (
            (ho_gr 7 a0 3 z).bind fun r11 =>
            (ho_li 1 r11 v6 z).bind fun v12 =>
            f_X7_event_B97 fu a0 x1 x2 x3 v12 z
          ) else (
            (ho_gr 7 a0 3 z).bind fun r7 =>
            (ho_li 1 r7 v6 z).bind fun v8 =>
            if v8 = (-1) then (
              f_X7_event_B97 fu a0 x1 x2 x3 0 z
            ) else (
              (ho_gr 7 a0 4 z).bind fun r9 =>
              (ho_li 1 r9 v6 z).bind fun v10 =>
              f_X7_event_B97 fu a0 x1 x2 x3 (v10 + 2) z
            )
          )
        )
      )
    )
  )
set_option maxHeartbeats 4000000 in
set_option maxRecDepth 100000 in
theorem c_X7_event (l : Launch) (G : hp_G) (fu : Nat) (a0 : Nat) (x1 : Int32) (x2 : Int32) (x3 : Int32) (z : hp_S) (rq : Int32) (zq : hp_S) (h : f_X7_event fu a0 x1 x2 x3 z = some (rq, zq)) : hp_M l G yX7_event cX7_event 5 (some .int) 2 43 0 0 [.ref a0, .int x1, .int x2, .int x3] z (hp_Qi G rq zq) := by
  refine hp_M.of (by decide) (Nat.le_of_ble_eq_true rfl) ?_
  intro p e s m below meth c X hr hlocks hnm hP hS ls hl
  have X : hp_C G cX7_event RX7 5 p s m c := X
  have hl : lv_has ls 5 [(0, .ref a0), (1, .int x1), (2, .int x2), (3, .int x3)] := hl
  have hx := X.1
  have hb := X.2.1
  have B33 : ∀ (z : hp_S) (H : Heap) (locs : List Loc) (ls : Array Slot), f_X7_event_B33 fu a0 x1 x2 x3 z = some (rq, zq) → hp_P G z H → va_S (hp_A G) s.heap H locs → lv_has ls 5 [(0, .ref a0), (1, .int x1), (2, .int x2), (3, .int x3)] → W p l e (hp_rm 2 43 0 0) s m [.ref a0, .int x1, .int x2, .int x3].toArray below meth c H locs 0 0 (MQ below (hp_Qi G rq zq) [.ref a0, .int x1, .int x2, .int x3].toArray s 0 0 (hp_A G)) (F0 m 33 ls []) := by
    intro z H locs ls h hP hS hl
    unfold f_X7_event_B33 at h
    refine lv_bipush (v := (-2)) hx hb dX7_event_33 (by decide) ?_
    exact hw_iret X hP hS hr hlocks h dX7_event_35
  have B97 : ∀ (s0 : Int32) (z : hp_S) (H : Heap) (locs : List Loc) (ls : Array Slot), f_X7_event_B97 fu a0 x1 x2 x3 s0 z = some (rq, zq) → hp_P G z H → va_S (hp_A G) s.heap H locs → lv_has ls 5 [(0, .ref a0), (1, .int x1), (2, .int x2), (3, .int x3)] → W p l e (hp_rm 2 43 0 0) s m [.ref a0, .int x1, .int x2, .int x3].toArray below meth c H locs 0 0 (MQ below (hp_Qi G rq zq) [.ref a0, .int x1, .int x2, .int x3].toArray s 0 0 (hp_A G)) (F0 m 97 ls [.int s0]) := by
    intro s0 z H locs ls h hP hS hl
    unfold f_X7_event_B97 at h
    exact hw_iret X hP hS hr hlocks h dX7_event_97
  unfold f_X7_event at h
  refine lv_aload_n hx hb dX7_event_0 rfl (lv_at hl 0 rfl) ?_
  refine lv_iload_n hx hb dX7_event_1 rfl (lv_at hl 1 rfl) ?_
  obtain ⟨_, hs, h⟩ := ho_bd h
  obtain ⟨⟨v1, z⟩, q, h⟩ := ho_bd h
  refine hw_ci hS (hp_runV (As := [.int x1]) (rest := []) X hP hS hl.1 LX7 (ho_is_s hs) kX7_85 ⟨m3_180, mp_21⟩ (c_X7_isVoice l G fu a0 x1 _ _ _ q) rfl (Nat.le_of_ble_eq_true rfl) ⟨⟨Nat.le_of_ble_eq_true rfl, Nat.le_of_ble_eq_true rfl⟩, Nat.le_of_ble_eq_true rfl, Nat.le_of_ble_eq_true rfl⟩ dX7_event_2) (fun H locs hP hS => ?_)
  refine lv_if_eq (tgt := 33) hx hb dX7_event_5 (by decide) (fun hc => ?_) (fun hc => ?_)
  · replace h := ho_ip hc h
    exact B33 z _ _ _ h hP hS (lv_sub hl [0, 1, 2, 3] rfl)
  · replace h := ho_in hc h
    refine lv_iload_n hx hb dX7_event_8 rfl (lv_at hl 2 rfl) ?_
    refine lv_iconst (v := 0) hx hb dX7_event_9 (by decide) ?_
    refine lv_aload_n hx hb dX7_event_10 rfl (lv_at hl 0 rfl) ?_
    obtain ⟨r2, q, h⟩ := ho_bd h
    refine hw_gr X hP LX7 fX7_7 rfl q dX7_event_11 ?_
    refine lv_iload_n hx hb dX7_event_14 rfl (lv_at hl 1 rfl) ?_
    obtain ⟨v3, q, h⟩ := ho_bd h
    refine hw_li X hP q dX7_event_15 ?_
    refine lv_iconst (v := 1) hx hb dX7_event_16 (by decide) ?_
    refine lv_isub hx hb dX7_event_17 ?_
    obtain ⟨⟨v4, z⟩, q, h⟩ := ho_bd h
    refine hw_ci hS (hp_runS (As := [.int x2, .int 0, .int (v3 - 1)]) (rest := []) X hP hS hl.1 kX7_81 m3_183 (c_X7_isIn l G fu x2 0 (v3 - 1) _ _ _ q) rfl (Nat.le_of_ble_eq_true rfl) ⟨⟨Nat.le_of_ble_eq_true rfl, Nat.le_of_ble_eq_true rfl⟩, Nat.le_of_ble_eq_true rfl, Nat.le_of_ble_eq_true rfl⟩ dX7_event_18) (fun H locs hP hS => ?_)
    refine lv_if_eq (tgt := 33) hx hb dX7_event_21 (by decide) (fun hc => ?_) (fun hc => ?_)
    · replace h := ho_ip hc h
      exact B33 z _ _ _ h hP hS (lv_sub hl [0, 1, 2, 3] rfl)
    · replace h := ho_in hc h
      refine lv_iload_n hx hb dX7_event_24 rfl (lv_at hl 3 rfl) ?_
      refine lv_iconst (v := 0) hx hb dX7_event_25 (by decide) ?_
      refine lv_iconst (v := 2) hx hb dX7_event_26 (by decide) ?_
      obtain ⟨⟨v5, z⟩, q, h⟩ := ho_bd h
      refine hw_ci hS (hp_runS (As := [.int x3, .int 0, .int 2]) (rest := []) X hP hS hl.1 kX7_81 m3_183 (c_X7_isIn l G fu x3 0 2 _ _ _ q) rfl (Nat.le_of_ble_eq_true rfl) ⟨⟨Nat.le_of_ble_eq_true rfl, Nat.le_of_ble_eq_true rfl⟩, Nat.le_of_ble_eq_true rfl, Nat.le_of_ble_eq_true rfl⟩ dX7_event_27) (fun H locs hP hS => ?_)
      refine lv_if_ne (tgt := 36) hx hb dX7_event_30 (by decide) (fun hc => ?_) (fun hc => ?_)
      · replace h := ho_in hc h
        refine lv_bipush (v := 24) hx hb dX7_event_36 (by decide) ?_
        refine lv_iload_n hx hb dX7_event_38 rfl (lv_at hl 1 rfl) ?_
        refine lv_imul hx hb dX7_event_39 ?_
        refine lv_iload_n hx hb dX7_event_40 rfl (lv_at hl 2 rfl) ?_
        refine lv_iadd hx hb dX7_event_41 ?_
        obtain ⟨v6, q, h⟩ := ho_bd h
        refine hw_id q ?_
        refine lv_istore (lv' := [(4, .int v6), (0, .ref a0), (1, .int x1), (2, .int x2), (3, .int x3)]) hx hb dX7_event_42 hl (by decide) rfl (fun ls hl => ?_)
        refine lv_iload_n hx hb dX7_event_44 rfl (lv_at hl 4 rfl) ?_
        refine lv_if_ne (tgt := 58) hx hb dX7_event_45 (by decide) (fun hc => ?_) (fun hc => ?_)
        · replace h := ho_in hc h
          refine lv_iload_n hx hb dX7_event_58 rfl (lv_at hl 4 rfl) ?_
          refine lv_iconst (v := 1) hx hb dX7_event_59 (by decide) ?_
          refine lv_icmp_ne (tgt := 73) hx hb dX7_event_60 (by decide) (fun hc => ?_) (fun hc => ?_)
          · replace h := ho_in hc h
            refine lv_aload_n hx hb dX7_event_73 rfl (lv_at hl 1 rfl) ?_
            obtain ⟨r7, q, h⟩ := ho_bd h
            refine hw_gr X hP LX7 fX7_16 rfl q dX7_event_74 ?_
            refine lv_iload hx hb dX7_event_77 (lv_at hl 0 rfl) ?_
            obtain ⟨v8, q, h⟩ := ho_bd h
            refine hw_li X hP q dX7_event_79 ?_
            refine lv_iconst (v := (-1)) hx hb dX7_event_80 (by decide) ?_
            refine lv_icmp_ne (tgt := 88) hx hb dX7_event_81 (by decide) (fun hc => ?_) (fun hc => ?_)
            · replace h := ho_in hc h
              refine lv_aload_n hx hb dX7_event_88 rfl (lv_at hl 1 rfl) ?_
              obtain ⟨r9, q, h⟩ := ho_bd h
              refine hw_gr X hP LX7 fX7_19 rfl q dX7_event_89 ?_
              refine lv_iload hx hb dX7_event_92 (lv_at hl 0 rfl) ?_
              obtain ⟨v10, q, h⟩ := ho_bd h
              refine hw_li X hP q dX7_event_94 ?_
              refine lv_iconst (v := 2) hx hb dX7_event_95 (by decide) ?_
              refine lv_iadd hx hb dX7_event_96 ?_
              exact B97 (v10 + 2) z _ _ _ h hP hS (lv_sub hl [1, 2, 3, 4] rfl)
            · replace h := ho_ip hc h
              refine lv_iconst (v := 0) hx hb dX7_event_84 (by decide) ?_
              refine lv_goto (tgt := 97) hx hb dX7_event_85 (by decide) ?_
              exact B97 0 z _ _ _ h hP hS (lv_sub hl [1, 2, 3, 4] rfl)
          · replace h := ho_ip hc h
            refine lv_aload_n hx hb dX7_event_63 rfl (lv_at hl 1 rfl) ?_
            obtain ⟨r11, q, h⟩ := ho_bd h
            refine hw_gr X hP LX7 fX7_16 rfl q dX7_event_64 ?_
            refine lv_iload hx hb dX7_event_67 (lv_at hl 0 rfl) ?_
            obtain ⟨v12, q, h⟩ := ho_bd h
            refine hw_li X hP q dX7_event_69 ?_
            refine lv_goto (tgt := 97) hx hb dX7_event_70 (by decide) ?_
            exact B97 v12 z _ _ _ h hP hS (lv_sub hl [1, 2, 3, 4] rfl)
        · replace h := ho_ip hc h
          refine lv_aload_n hx hb dX7_event_48 rfl (lv_at hl 1 rfl) ?_
          obtain ⟨r13, q, h⟩ := ho_bd h
          refine hw_gr X hP LX7 fX7_13 rfl q dX7_event_49 ?_
          refine lv_iload hx hb dX7_event_52 (lv_at hl 0 rfl) ?_
          obtain ⟨v14, q, h⟩ := ho_bd h
          refine hw_li X hP q dX7_event_54 ?_
          refine lv_goto (tgt := 97) hx hb dX7_event_55 (by decide) ?_
          exact B97 v14 z _ _ _ h hP hS (lv_sub hl [1, 2, 3, 4] rfl)
      · replace h := ho_ip hc h
        exact B33 z _ _ _ h hP hS (lv_sub hl [0, 1, 2, 3] rfl)
