def f_J9_floorMod_B18 (fu : Nat) (x0 : Int32) (x1 : Int32) (w2 : Int32) (z : hp_S) : Option (Int32 × hp_S) :=
  some (w2, z)
def f_J9_floorMod (fu : Nat) (x0 : Int32) (x1 : Int32) (z : hp_S) : Option (Int32 × hp_S) :=
  (ho_rm x0 x1).bind fun v1 =>
  if 0 ≤ (x0 ^^^ x1) then (
    f_J9_floorMod_B18 fu x0 x1 v1 z
  ) else (
    if v1 = 0 then (
      f_J9_floorMod_B18 fu x0 x1 v1 z
    ) else (
      some ((v1 + x1), z)
    )
  )
set_option maxHeartbeats 4000000 in
set_option maxRecDepth 100000 in
theorem c_J9_floorMod (l : Launch) (G : hp_G) (fu : Nat) (x0 : Int32) (x1 : Int32) (z : hp_S) (rq : Int32) (zq : hp_S) (h : f_J9_floorMod fu x0 x1 z = some (rq, zq)) : hp_M l G yJ9_floorMod cJ9_floorMod 3 (some .int) 0 0 0 0 [.int x0, .int x1] z (hp_Qi G rq zq) := by
  refine hp_M.ofF (by decide +kernel) (Nat.le_of_ble_eq_true rfl) ?_
  intro p e s m below meth c X hr hlocks hnm hP hS ls hl
  have X : hp_C G cJ9_floorMod RJ9 3 p s m c := X
  have hl : lv_has ls 3 [(0, .int x0), (1, .int x1)] := hl
  have hx := X.1
  have hb := X.2.1
  have B18 : ∀ (w2 : Int32) (z : hp_S) (H : Heap) (locs : List Loc) (ls : Array Slot), f_J9_floorMod_B18 fu x0 x1 w2 z = some (rq, zq) → hp_P G z H → va_S (hp_A G) s.heap H locs → lv_has ls 3 [(0, .int x0), (1, .int x1), (2, .int w2)] → W p l e (hp_rm 0 0 0 0) s m [.int x0, .int x1].toArray below meth c H locs 0 0 (MQ below (hp_Qi G rq zq) [.int x0, .int x1].toArray s 0 0 (hp_A G)) (F0 m 18 ls []) := by
    intro w2 z H locs ls h hP hS hl
    unfold f_J9_floorMod_B18 at h
    refine lv_iload_n hx hb dJ9_floorMod_18 rfl (lv_at hl 2 rfl) ?_
    exact hw_iret X hP hS hr hlocks h dJ9_floorMod_19
  unfold f_J9_floorMod at h
  refine lv_iload_n hx hb dJ9_floorMod_0 rfl (lv_at hl 0 rfl) ?_
  refine lv_iload_n hx hb dJ9_floorMod_1 rfl (lv_at hl 1 rfl) ?_
  obtain ⟨v1, q, h⟩ := ho_bd h
  refine hw_rm X q dJ9_floorMod_2 ?_
  refine lv_istore_n (lv' := [(2, .int v1), (0, .int x0), (1, .int x1)]) hx hb dJ9_floorMod_3 rfl hl (by decide) rfl (fun ls hl => ?_)
  refine lv_iload_n hx hb dJ9_floorMod_4 rfl (lv_at hl 1 rfl) ?_
  refine lv_iload_n hx hb dJ9_floorMod_5 rfl (lv_at hl 2 rfl) ?_
  refine lv_ixor hx hb dJ9_floorMod_6 ?_
  refine lv_if_ge (tgt := 18) hx hb dJ9_floorMod_7 (by decide) (fun hc => ?_) (fun hc => ?_)
  · replace h := ho_ip hc h
    exact B18 v1 z _ _ _ h hP hS (lv_sub hl [1, 2, 0] rfl)
  · replace h := ho_in hc h
    refine lv_iload_n hx hb dJ9_floorMod_10 rfl (lv_at hl 0 rfl) ?_
    refine lv_if_eq (tgt := 18) hx hb dJ9_floorMod_11 (by decide) (fun hc => ?_) (fun hc => ?_)
    · replace h := ho_ip hc h
      exact B18 v1 z _ _ _ h hP hS (lv_sub hl [1, 2, 0] rfl)
    · replace h := ho_in hc h
      refine lv_iload_n hx hb dJ9_floorMod_14 rfl (lv_at hl 0 rfl) ?_
      refine lv_iload_n hx hb dJ9_floorMod_15 rfl (lv_at hl 2 rfl) ?_
      refine lv_iadd hx hb dJ9_floorMod_16 ?_
      exact hw_iret X hP hS hr hlocks h dJ9_floorMod_17
def f_X3_sharpnessInKey_B61 (fu : Nat) (x0 : Int32) (x1 : Int32) (z : hp_S) : Option (Int32 × hp_S) :=
  some (0, z)
def f_X3_sharpnessInKey_L32 (fu : Nat) (x0 : Int32) (x1 : Int32) (kk : hp_S → Option (Int32 × hp_S)) : Nat → Int32 → hp_S → Option (Int32 × hp_S)
  | 0, _, _ => none
  | n + 1, w2, z =>
    if (-x1) ≤ w2 then (
      kk  z
    ) else (
      if 7 ≤ w2 then (
        kk  z
      ) else (
        (ho_tl h_t3 w2).bind fun v1 =>
        if v1 = x0 then (
          some ((-1), z)
        ) else (
          (ho_id (w2 + 1)).bind fun v2 =>
          (f_X3_sharpnessInKey_L32 fu x0 x1 kk n) v2 z
        )
      )
    )
def f_X3_sharpnessInKey_B30 (fu : Nat) (x0 : Int32) (x1 : Int32) (z : hp_S) : Option (Int32 × hp_S) :=
  f_X3_sharpnessInKey_L32 fu x0 x1 (f_X3_sharpnessInKey_B61 fu x0 x1) fu 0 z
def f_X3_sharpnessInKey_L2 (fu : Nat) (x0 : Int32) (x1 : Int32) (kk : hp_S → Option (Int32 × hp_S)) : Nat → Int32 → hp_S → Option (Int32 × hp_S)
  | 0, _, _ => none
  | n + 1, w2, z =>
    if x1 ≤ w2 then (
      kk  z
    ) else (
      if 7 ≤ w2 then (
        kk  z
      ) else (
        (ho_tl h_t2 w2).bind fun v3 =>
        if v3 = x0 then (
          some (1, z)
        ) else (
          (ho_id (w2 + 1)).bind fun v4 =>
          (f_X3_sharpnessInKey_L2 fu x0 x1 kk n) v4 z
        )
      )
    )
def f_X3_sharpnessInKey (fu : Nat) (x0 : Int32) (x1 : Int32) (z : hp_S) : Option (Int32 × hp_S) :=
  f_X3_sharpnessInKey_L2 fu x0 x1 (f_X3_sharpnessInKey_B30 fu x0 x1) fu 0 z
set_option maxHeartbeats 4000000 in
set_option maxRecDepth 100000 in
theorem c_X3_sharpnessInKey (l : Launch) (G : hp_G) (fu : Nat) (x0 : Int32) (x1 : Int32) (z : hp_S) (rq : Int32) (zq : hp_S) (h : f_X3_sharpnessInKey fu x0 x1 z = some (rq, zq)) : hp_M l G yX3_sharpnessInKey cX3_sharpnessInKey 3 (some .int) 0 0 0 0 [.int x0, .int x1] z (hp_Qi G rq zq) := by
  refine hp_M.of (by decide) (Nat.le_of_ble_eq_true rfl) ?_
  intro p e s m below meth c X hr hlocks hnm hP hS ls hl
  have X : hp_C G cX3_sharpnessInKey RX3 3 p s m c := X
  have hl : lv_has ls 3 [(0, .int x0), (1, .int x1)] := hl
  have hx := X.1
  have hb := X.2.1
  have B61 : ∀ (z : hp_S) (H : Heap) (locs : List Loc) (ls : Array Slot), f_X3_sharpnessInKey_B61 fu x0 x1 z = some (rq, zq) → hp_P G z H → va_S (hp_A G) s.heap H locs → lv_has ls 3 [(0, .int x0), (1, .int x1)] → W p l e (hp_rm 0 0 0 0) s m [.int x0, .int x1].toArray below meth c H locs 0 0 (MQ below (hp_Qi G rq zq) [.int x0, .int x1].toArray s 0 0 (hp_A G)) (F0 m 61 ls []) := by
    intro z H locs ls h hP hS hl
    unfold f_X3_sharpnessInKey_B61 at h
    refine lv_iconst (v := 0) hx hb dX3_sharpnessInKey_61 (by decide) ?_
    exact hw_iret X hP hS hr hlocks h dX3_sharpnessInKey_62
  have L32 : ∀ (n32 : Nat) (w2 : Int32) (z : hp_S) (H : Heap) (locs : List Loc) (ls : Array Slot), f_X3_sharpnessInKey_L32 fu x0 x1 (f_X3_sharpnessInKey_B61 fu x0 x1) n32 w2 z = some (rq, zq) → hp_P G z H → va_S (hp_A G) s.heap H locs → lv_has ls 3 [(0, .int x0), (1, .int x1), (2, .int w2)] → W p l e (hp_rm 0 0 0 0) s m [.int x0, .int x1].toArray below meth c H locs 0 0 (MQ below (hp_Qi G rq zq) [.int x0, .int x1].toArray s 0 0 (hp_A G)) (F0 m 32 ls []) := by
    intro n32
    induction n32 with
    | zero =>
      intro w2 z H locs ls h
      exact nomatch (h : (none : Option (Int32 × hp_S)) = some (rq, zq))
    | succ n32 ih32 =>
      intro w2 z H locs ls h hP hS hl
      rw [f_X3_sharpnessInKey_L32] at h
      refine lv_iload_n hx hb dX3_sharpnessInKey_32 rfl (lv_at hl 2 rfl) ?_
      refine lv_iload_n hx hb dX3_sharpnessInKey_33 rfl (lv_at hl 1 rfl) ?_
      refine lv_ineg hx hb dX3_sharpnessInKey_34 ?_
      refine lv_icmp_ge (tgt := 61) hx hb dX3_sharpnessInKey_35 (by decide) (fun hc => ?_) (fun hc => ?_)
      · replace h := ho_ip hc h
        exact B61 z _ _ _ h hP hS (lv_sub hl [0, 1] rfl)
      · replace h := ho_in hc h
        refine lv_iload_n hx hb dX3_sharpnessInKey_38 rfl (lv_at hl 2 rfl) ?_
        refine lv_bipush (v := 7) hx hb dX3_sharpnessInKey_39 (by decide) ?_
        refine lv_icmp_ge (tgt := 61) hx hb dX3_sharpnessInKey_41 (by decide) (fun hc => ?_) (fun hc => ?_)
        · replace h := ho_ip hc h
          exact B61 z _ _ _ h hP hS (lv_sub hl [0, 1] rfl)
        · replace h := ho_in hc h
          refine hw_gsN (q := h_q3) X hS h_s3 m2_140 dX3_sharpnessInKey_44 ?_
          refine lv_iload_n hx hb dX3_sharpnessInKey_47 rfl (lv_at hl 2 rfl) ?_
          obtain ⟨v1, q, h⟩ := ho_bd h
          refine hw_tl (q := h_q3) X hS h_s3 q dX3_sharpnessInKey_48 ?_
          refine lv_iload_n hx hb dX3_sharpnessInKey_49 rfl (lv_at hl 0 rfl) ?_
          refine lv_icmp_ne (tgt := 55) hx hb dX3_sharpnessInKey_50 (by decide) (fun hc => ?_) (fun hc => ?_)
          · replace h := ho_in hc h
            obtain ⟨v2, q, h⟩ := ho_bd h
            refine lv_iinc (v := v2) (lv' := [(2, .int v2), (0, .int x0), (1, .int x1)]) hx hb dX3_sharpnessInKey_55 hl (k := 2) rfl (Option.some.inj q) (by decide) rfl (fun ls hl => ?_)
            refine lv_goto (tgt := 32) hx hb dX3_sharpnessInKey_58 (by decide) ?_
            exact ih32 v2 z _ _ _ h hP hS (lv_sub hl [1, 2, 0] rfl)
          · replace h := ho_ip hc h
            refine lv_iconst (v := (-1)) hx hb dX3_sharpnessInKey_53 (by decide) ?_
            exact hw_iret X hP hS hr hlocks h dX3_sharpnessInKey_54
  have B30 : ∀ (z : hp_S) (H : Heap) (locs : List Loc) (ls : Array Slot), f_X3_sharpnessInKey_B30 fu x0 x1 z = some (rq, zq) → hp_P G z H → va_S (hp_A G) s.heap H locs → lv_has ls 3 [(0, .int x0), (1, .int x1)] → W p l e (hp_rm 0 0 0 0) s m [.int x0, .int x1].toArray below meth c H locs 0 0 (MQ below (hp_Qi G rq zq) [.int x0, .int x1].toArray s 0 0 (hp_A G)) (F0 m 30 ls []) := by
    intro z H locs ls h hP hS hl
    unfold f_X3_sharpnessInKey_B30 at h
    refine lv_iconst (v := 0) hx hb dX3_sharpnessInKey_30 (by decide) ?_
    refine lv_istore_n (lv' := [(2, .int 0), (0, .int x0), (1, .int x1)]) hx hb dX3_sharpnessInKey_31 rfl hl (by decide) rfl (fun ls hl => ?_)
    exact L32 fu 0 z _ _ _ h hP hS (lv_sub hl [1, 2, 0] rfl)
  have L2 : ∀ (n2 : Nat) (w2 : Int32) (z : hp_S) (H : Heap) (locs : List Loc) (ls : Array Slot), f_X3_sharpnessInKey_L2 fu x0 x1 (f_X3_sharpnessInKey_B30 fu x0 x1) n2 w2 z = some (rq, zq) → hp_P G z H → va_S (hp_A G) s.heap H locs → lv_has ls 3 [(0, .int x0), (1, .int x1), (2, .int w2)] → W p l e (hp_rm 0 0 0 0) s m [.int x0, .int x1].toArray below meth c H locs 0 0 (MQ below (hp_Qi G rq zq) [.int x0, .int x1].toArray s 0 0 (hp_A G)) (F0 m 2 ls []) := by
    intro n2
    induction n2 with
    | zero =>
      intro w2 z H locs ls h
      exact nomatch (h : (none : Option (Int32 × hp_S)) = some (rq, zq))
    | succ n2 ih2 =>
      intro w2 z H locs ls h hP hS hl
      rw [f_X3_sharpnessInKey_L2] at h
      refine lv_iload_n hx hb dX3_sharpnessInKey_2 rfl (lv_at hl 2 rfl) ?_
      refine lv_iload_n hx hb dX3_sharpnessInKey_3 rfl (lv_at hl 1 rfl) ?_
      refine lv_icmp_ge (tgt := 30) hx hb dX3_sharpnessInKey_4 (by decide) (fun hc => ?_) (fun hc => ?_)
      · replace h := ho_ip hc h
        exact B30 z _ _ _ h hP hS (lv_sub hl [0, 1] rfl)
      · replace h := ho_in hc h
        refine lv_iload_n hx hb dX3_sharpnessInKey_7 rfl (lv_at hl 2 rfl) ?_
        refine lv_bipush (v := 7) hx hb dX3_sharpnessInKey_8 (by decide) ?_
        refine lv_icmp_ge (tgt := 30) hx hb dX3_sharpnessInKey_10 (by decide) (fun hc => ?_) (fun hc => ?_)
        · replace h := ho_ip hc h
          exact B30 z _ _ _ h hP hS (lv_sub hl [0, 1] rfl)
        · replace h := ho_in hc h
          refine hw_gsN (q := h_q2) X hS h_s2 m2_138 dX3_sharpnessInKey_13 ?_
          refine lv_iload_n hx hb dX3_sharpnessInKey_16 rfl (lv_at hl 2 rfl) ?_
          obtain ⟨v3, q, h⟩ := ho_bd h
          refine hw_tl (q := h_q2) X hS h_s2 q dX3_sharpnessInKey_17 ?_
          refine lv_iload_n hx hb dX3_sharpnessInKey_18 rfl (lv_at hl 0 rfl) ?_
          refine lv_icmp_ne (tgt := 24) hx hb dX3_sharpnessInKey_19 (by decide) (fun hc => ?_) (fun hc => ?_)
          · replace h := ho_in hc h
            obtain ⟨v4, q, h⟩ := ho_bd h
            refine lv_iinc (v := v4) (lv' := [(2, .int v4), (0, .int x0), (1, .int x1)]) hx hb dX3_sharpnessInKey_24 hl (k := 2) rfl (Option.some.inj q) (by decide) rfl (fun ls hl => ?_)
            refine lv_goto (tgt := 2) hx hb dX3_sharpnessInKey_27 (by decide) ?_
            exact ih2 v4 z _ _ _ h hP hS (lv_sub hl [1, 2, 0] rfl)
          · replace h := ho_ip hc h
            refine lv_iconst (v := 1) hx hb dX3_sharpnessInKey_22 (by decide) ?_
            exact hw_iret X hP hS hr hlocks h dX3_sharpnessInKey_23
  unfold f_X3_sharpnessInKey at h
  refine lv_iconst (v := 0) hx hb dX3_sharpnessInKey_0 (by decide) ?_
  refine lv_istore_n (lv' := [(2, .int 0), (0, .int x0), (1, .int x1)]) hx hb dX3_sharpnessInKey_1 rfl hl (by decide) rfl (fun ls hl => ?_)
  exact L2 fu 0 z _ _ _ h hP hS (lv_sub hl [1, 2, 0] rfl)
def f_X3_begin (fu : Nat) (a0 : Nat) (x1 : Int32) (x2 : Int32) (z : hp_S) : Option hp_S :=
  (ho_pi 3 a0 5 x1 z).bind fun z =>
  (f_J9_floorMod fu ((4 * x2) + 6) 7 z).bind fun ⟨v1, z⟩ =>
  (ho_pi 3 a0 6 v1 z).bind fun z =>
  (ho_gi 3 a0 6 z).bind fun v2 =>
  (f_X3_sharpnessInKey fu v2 x2 z).bind fun ⟨v3, z⟩ =>
  (ho_pi 3 a0 7 v3 z).bind fun z =>
  some z
set_option maxHeartbeats 4000000 in
set_option maxRecDepth 100000 in
theorem c_X3_begin (l : Launch) (G : hp_G) (fu : Nat) (a0 : Nat) (x1 : Int32) (x2 : Int32) (z zq : hp_S) (h : f_X3_begin fu a0 x1 x2 z = some zq) : hp_M l G yX3_begin cX3_begin 3 none 1 22 0 0 [.ref a0, .int x1, .int x2] z (hp_Qv G zq) := by
  refine hp_M.of (by decide) (Nat.le_of_ble_eq_true rfl) ?_
  intro p e s m below meth c X hr hlocks hnm hP hS ls hl
  have X : hp_C G cX3_begin RX3 3 p s m c := X
  have hl : lv_has ls 3 [(0, .ref a0), (1, .int x1), (2, .int x2)] := hl
  have hx := X.1
  have hb := X.2.1
  unfold f_X3_begin at h
  refine lv_aload_n hx hb dX3_begin_0 rfl (lv_at hl 0 rfl) ?_
  refine lv_iload_n hx hb dX3_begin_1 rfl (lv_at hl 1 rfl) ?_
  obtain ⟨z, q, h⟩ := ho_bd h
  refine hw_pi X hP hS LX3 fX3_28 rfl rfl rfl q dX3_begin_2 (fun H locs hP hS => ?_)
  refine lv_aload_n hx hb dX3_begin_5 rfl (lv_at hl 0 rfl) ?_
  refine lv_iconst (v := 4) hx hb dX3_begin_6 (by decide) ?_
  refine lv_iload_n hx hb dX3_begin_7 rfl (lv_at hl 2 rfl) ?_
  refine lv_imul hx hb dX3_begin_8 ?_
  refine lv_bipush (v := 6) hx hb dX3_begin_9 (by decide) ?_
  refine lv_iadd hx hb dX3_begin_11 ?_
  refine lv_bipush (v := 7) hx hb dX3_begin_12 (by decide) ?_
  obtain ⟨⟨v1, z⟩, q, h⟩ := ho_bd h
  refine hw_ci hS (hp_runS (As := [.int ((4 * x2) + 6), .int 7]) (rest := [.ref a0]) X hP hS hl.1 kX3_32 m2_133 (c_J9_floorMod l G fu ((4 * x2) + 6) 7 _ _ _ q) rfl (Nat.le_of_ble_eq_true rfl) ⟨⟨Nat.le_of_ble_eq_true rfl, Nat.le_of_ble_eq_true rfl⟩, Nat.le_of_ble_eq_true rfl, Nat.le_of_ble_eq_true rfl⟩ dX3_begin_14) (fun H locs hP hS => ?_)
  obtain ⟨z, q, h⟩ := ho_bd h
  refine hw_pi X hP hS LX3 fX3_38 rfl rfl rfl q dX3_begin_17 (fun H locs hP hS => ?_)
  refine lv_aload_n hx hb dX3_begin_20 rfl (lv_at hl 0 rfl) ?_
  refine lv_aload_n hx hb dX3_begin_21 rfl (lv_at hl 0 rfl) ?_
  obtain ⟨v2, q, h⟩ := ho_bd h
  refine hw_gi X hP LX3 fX3_38 rfl q dX3_begin_22 ?_
  refine lv_iload_n hx hb dX3_begin_25 rfl (lv_at hl 2 rfl) ?_
  obtain ⟨⟨v3, z⟩, q, h⟩ := ho_bd h
  refine hw_ci hS (hp_runS (As := [.int v2, .int x2]) (rest := [.ref a0]) X hP hS hl.1 kX3_41 m2_136 (c_X3_sharpnessInKey l G fu v2 x2 _ _ _ q) rfl (Nat.le_of_ble_eq_true rfl) ⟨⟨Nat.le_of_ble_eq_true rfl, Nat.le_of_ble_eq_true rfl⟩, Nat.le_of_ble_eq_true rfl, Nat.le_of_ble_eq_true rfl⟩ dX3_begin_26) (fun H locs hP hS => ?_)
  obtain ⟨z, q, h⟩ := ho_bd h
  refine hw_pi X hP hS LX3 fX3_44 rfl rfl rfl q dX3_begin_29 (fun H locs hP hS => ?_)
  exact hw_vret X hP hS hr hlocks h dX3_begin_32
def f_X2_begin (fu : Nat) (a0 : Nat) (a1 : Nat) (z : hp_S) : Option hp_S :=
  (ho_is 2 a0 z).bind fun _ =>
  (f_X2_reset fu a0 z).bind fun z =>
  (ho_gi 5 a1 1 z).bind fun v1 =>
  (ho_pi 2 a0 2 v1 z).bind fun z =>
  (ho_gr 5 a1 0 z).bind fun r2 =>
  (ho_gr 2 a0 1 z).bind fun r3 =>
  (ho_gr 2 a0 1 z).bind fun r4 =>
  (ho_ln 1 r4 z).bind fun v5 =>
  (ho_cp r2 0 r3 0 v5 z).bind fun z =>
  some z
set_option maxHeartbeats 4000000 in
set_option maxRecDepth 100000 in
theorem c_X2_begin (l : Launch) (G : hp_G) (fu : Nat) (a0 : Nat) (a1 : Nat) (z zq : hp_S) (h : f_X2_begin fu a0 a1 z = some zq) : hp_M l G yX2_begin cX2_begin 2 none 2 48 0 0 [.ref a0, .ref a1] z (hp_Qv G zq) := by
  refine hp_M.of (by decide) (Nat.le_of_ble_eq_true rfl) ?_
  intro p e s m below meth c X hr hlocks hnm hP hS ls hl
  have X : hp_C G cX2_begin RX2 2 p s m c := X
  have hl : lv_has ls 2 [(0, .ref a0), (1, .ref a1)] := hl
  have hx := X.1
  have hb := X.2.1
  unfold f_X2_begin at h
  refine lv_aload_n hx hb dX2_begin_0 rfl (lv_at hl 0 rfl) ?_
  obtain ⟨_, hs, h⟩ := ho_bd h
  obtain ⟨z, q, h⟩ := ho_bd h
  refine hw_cv hS (hp_runV (As := []) (rest := []) X hP hS hl.1 LX2 (ho_is_s hs) kX2_37 ⟨m1_233, m1_234⟩ (c_X2_reset l G fu a0 _ _ q) rfl (Nat.le_of_ble_eq_true rfl) ⟨⟨Nat.le_of_ble_eq_true rfl, Nat.le_of_ble_eq_true rfl⟩, Nat.le_of_ble_eq_true rfl, Nat.le_of_ble_eq_true rfl⟩ dX2_begin_1) (fun H locs hP hS => ?_)
  refine lv_aload_n hx hb dX2_begin_4 rfl (lv_at hl 0 rfl) ?_
  refine lv_aload_n hx hb dX2_begin_5 rfl (lv_at hl 1 rfl) ?_
  obtain ⟨v1, q, h⟩ := ho_bd h
  refine hw_gi X hP LX5 fX2_40 rfl q dX2_begin_6 ?_
  obtain ⟨z, q, h⟩ := ho_bd h
  refine hw_pi X hP hS LX2 fX2_27 rfl rfl rfl q dX2_begin_9 (fun H locs hP hS => ?_)
  refine lv_aload_n hx hb dX2_begin_12 rfl (lv_at hl 1 rfl) ?_
  obtain ⟨r2, q, h⟩ := ho_bd h
  refine hw_gr X hP LX5 fX2_45 rfl q dX2_begin_13 ?_
  refine lv_iconst (v := 0) hx hb dX2_begin_16 (by decide) ?_
  refine lv_aload_n hx hb dX2_begin_17 rfl (lv_at hl 0 rfl) ?_
  obtain ⟨r3, q, h⟩ := ho_bd h
  refine hw_gr X hP LX2 fX2_15 rfl q dX2_begin_18 ?_
  refine lv_iconst (v := 0) hx hb dX2_begin_21 (by decide) ?_
  refine lv_aload_n hx hb dX2_begin_22 rfl (lv_at hl 0 rfl) ?_
  obtain ⟨r4, q, h⟩ := ho_bd h
  refine hw_gr X hP LX2 fX2_15 rfl q dX2_begin_23 ?_
  obtain ⟨v5, q, h⟩ := ho_bd h
  refine hw_ln (t0 := 0) X hP (by decide) (by decide) rfl q dX2_begin_26 ?_
  obtain ⟨z, q, h⟩ := ho_bd h
  refine hw_cp X hP hS hl.1 ⟨m2_151, m2_153, m2_152, m1_12⟩ (Nat.le_of_ble_eq_true rfl) (Nat.le_of_ble_eq_true rfl) q dX2_begin_27 (fun H locs hP hS => ?_)
  exact hw_vret X hP hS hr hlocks h dX2_begin_30
def f_X0_hush_B24 (fu : Nat) (a0 : Nat) (z : hp_S) : Option hp_S :=
  some z
def f_X0_hush_L2 (fu : Nat) (a0 : Nat) (kk : hp_S → Option hp_S) : Nat → Int32 → hp_S → Option hp_S
  | 0, _, _ => none
  | n + 1, w1, z =>
    (ho_gr 0 a0 0 z).bind fun r1 =>
    (ho_ln 2 r1 z).bind fun v2 =>
    if v2 ≤ w1 then (
      kk  z
    ) else (
      (ho_gr 0 a0 0 z).bind fun r3 =>
      (ho_sz r3 w1 0 z).bind fun z =>
      (ho_id (w1 + 1)).bind fun v4 =>
      (f_X0_hush_L2 fu a0 kk n) v4 z
    )
def f_X0_hush (fu : Nat) (a0 : Nat) (z : hp_S) : Option hp_S :=
  f_X0_hush_L2 fu a0 (f_X0_hush_B24 fu a0) fu 0 z
set_option maxHeartbeats 4000000 in
set_option maxRecDepth 100000 in
theorem c_X0_hush (l : Launch) (G : hp_G) (fu : Nat) (a0 : Nat) (z zq : hp_S) (h : f_X0_hush fu a0 z = some zq) : hp_M l G yX0_hush cX0_hush 2 none 0 0 0 0 [.ref a0] z (hp_Qv G zq) := by
  refine hp_M.of (by decide) (Nat.le_of_ble_eq_true rfl) ?_
  intro p e s m below meth c X hr hlocks hnm hP hS ls hl
  have X : hp_C G cX0_hush RX0 2 p s m c := X
  have hl : lv_has ls 2 [(0, .ref a0)] := hl
  have hx := X.1
  have hb := X.2.1
  have B24 : ∀ (z : hp_S) (H : Heap) (locs : List Loc) (ls : Array Slot), f_X0_hush_B24 fu a0 z = some zq → hp_P G z H → va_S (hp_A G) s.heap H locs → lv_has ls 2 [(0, .ref a0)] → W p l e (hp_rm 0 0 0 0) s m [.ref a0].toArray below meth c H locs 0 0 (MQ below (hp_Qv G zq) [.ref a0].toArray s 0 0 (hp_A G)) (F0 m 24 ls []) := by
    intro z H locs ls h hP hS hl
    unfold f_X0_hush_B24 at h
    exact hw_vret X hP hS hr hlocks h dX0_hush_24
  have L2 : ∀ (n2 : Nat) (w1 : Int32) (z : hp_S) (H : Heap) (locs : List Loc) (ls : Array Slot), f_X0_hush_L2 fu a0 (f_X0_hush_B24 fu a0) n2 w1 z = some zq → hp_P G z H → va_S (hp_A G) s.heap H locs → lv_has ls 2 [(0, .ref a0), (1, .int w1)] → W p l e (hp_rm 0 0 0 0) s m [.ref a0].toArray below meth c H locs 0 0 (MQ below (hp_Qv G zq) [.ref a0].toArray s 0 0 (hp_A G)) (F0 m 2 ls []) := by
    intro n2
    induction n2 with
    | zero =>
      intro w1 z H locs ls h
      exact nomatch (h : (none : Option hp_S) = some zq)
    | succ n2 ih2 =>
      intro w1 z H locs ls h hP hS hl
      rw [f_X0_hush_L2] at h
      refine lv_iload_n hx hb dX0_hush_2 rfl (lv_at hl 1 rfl) ?_
      refine lv_aload_n hx hb dX0_hush_3 rfl (lv_at hl 0 rfl) ?_
      obtain ⟨r1, q, h⟩ := ho_bd h
      refine hw_gr X hP LX0 fX0_9 rfl q dX0_hush_4 ?_
      obtain ⟨v2, q, h⟩ := ho_bd h
      refine hw_ln (t0 := 1) X hP (by decide) (by decide) rfl q dX0_hush_7 ?_
      refine lv_icmp_ge (tgt := 24) hx hb dX0_hush_8 (by decide) (fun hc => ?_) (fun hc => ?_)
      · replace h := ho_ip hc h
        exact B24 z _ _ _ h hP hS (lv_sub hl [0] rfl)
      · replace h := ho_in hc h
        refine lv_aload_n hx hb dX0_hush_11 rfl (lv_at hl 0 rfl) ?_
        obtain ⟨r3, q, h⟩ := ho_bd h
        refine hw_gr X hP LX0 fX0_9 rfl q dX0_hush_12 ?_
        refine lv_iload_n hx hb dX0_hush_15 rfl (lv_at hl 1 rfl) ?_
        refine lv_iconst (v := 0) hx hb dX0_hush_16 (by decide) ?_
        obtain ⟨z, q, h⟩ := ho_bd h
        refine hw_sz X hP hS q dX0_hush_17 (fun H locs hP hS => ?_)
        obtain ⟨v4, q, h⟩ := ho_bd h
        refine lv_iinc (v := v4) (lv' := [(1, .int v4), (0, .ref a0)]) hx hb dX0_hush_18 hl (k := 1) rfl (Option.some.inj q) (by decide) rfl (fun ls hl => ?_)
        refine lv_goto (tgt := 2) hx hb dX0_hush_21 (by decide) ?_
        exact ih2 v4 z _ _ _ h hP hS (lv_sub hl [1, 0] rfl)
  unfold f_X0_hush at h
  refine lv_iconst (v := 0) hx hb dX0_hush_0 (by decide) ?_
  refine lv_istore_n (lv' := [(1, .int 0), (0, .ref a0)]) hx hb dX0_hush_1 rfl hl (by decide) rfl (fun ls hl => ?_)
  exact L2 fu 0 z _ _ _ h hP hS (lv_sub hl [1, 0] rfl)
def f_X4_lastNotLater_B44 (fu : Nat) (a0 : Nat) (x1 : Int32) (w2 : Int32) (z : hp_S) : Option (Int32 × hp_S) :=
  some (w2, z)
def f_X4_lastNotLater_B37 (fu : Nat) (a0 : Nat) (x1 : Int32) (ag : Int32 → Int32 → hp_S → Option (Int32 × hp_S)) (kk : Int32 → hp_S → Option (Int32 × hp_S)) (w2 : Int32) (w3 : Int32) (z : hp_S) : Option (Int32 × hp_S) :=
  (ho_dv w3 2).bind fun v3 =>
  ag w2 v3 z
def f_X4_lastNotLater_L5 (fu : Nat) (a0 : Nat) (x1 : Int32) (kk : Int32 → hp_S → Option (Int32 × hp_S)) : Nat → Int32 → Int32 → hp_S → Option (Int32 × hp_S)
  | 0, _, _, _ => none
  | n + 1, w2, w3, z =>
    if w3 ≤ 0 then (
      kk w2 z
    ) else (
      (ho_id (w2 + w3)).bind fun v1 =>
      (ho_gi 4 a0 3 z).bind fun v2 =>
      if v2 ≤ v1 then (
        f_X4_lastNotLater_B37 fu a0 x1 (f_X4_lastNotLater_L5 fu a0 x1 kk n) kk w2 w3 z
      ) else (
        (ho_gr 4 a0 0 z).bind fun r4 =>
        (ho_li 1 r4 v1 z).bind fun v5 =>
        if x1 < v5 then (
          f_X4_lastNotLater_B37 fu a0 x1 (f_X4_lastNotLater_L5 fu a0 x1 kk n) kk w2 w3 z
        ) else (
          f_X4_lastNotLater_B37 fu a0 x1 (f_X4_lastNotLater_L5 fu a0 x1 kk n) kk v1 w3 z
        )
      )
    )
def f_X4_lastNotLater (fu : Nat) (a0 : Nat) (x1 : Int32) (z : hp_S) : Option (Int32 × hp_S) :=
  f_X4_lastNotLater_L5 fu a0 x1 (f_X4_lastNotLater_B44 fu a0 x1) fu (-1) 16 z
set_option maxHeartbeats 4000000 in
set_option maxRecDepth 100000 in
theorem c_X4_lastNotLater (l : Launch) (G : hp_G) (fu : Nat) (a0 : Nat) (x1 : Int32) (z : hp_S) (rq : Int32) (zq : hp_S) (h : f_X4_lastNotLater fu a0 x1 z = some (rq, zq)) : hp_M l G yX4_lastNotLater cX4_lastNotLater 5 (some .int) 0 0 0 0 [.ref a0, .int x1] z (hp_Qi G rq zq) := by
  refine hp_M.of (by decide) (Nat.le_of_ble_eq_true rfl) ?_
  intro p e s m below meth c X hr hlocks hnm hP hS ls hl
  have X : hp_C G cX4_lastNotLater RX4 5 p s m c := X
  have hl : lv_has ls 5 [(0, .ref a0), (1, .int x1)] := hl
  have hx := X.1
  have hb := X.2.1
  have B44 : ∀ (w2 : Int32) (z : hp_S) (H : Heap) (locs : List Loc) (ls : Array Slot), f_X4_lastNotLater_B44 fu a0 x1 w2 z = some (rq, zq) → hp_P G z H → va_S (hp_A G) s.heap H locs → lv_has ls 5 [(0, .ref a0), (1, .int x1), (2, .int w2)] → W p l e (hp_rm 0 0 0 0) s m [.ref a0, .int x1].toArray below meth c H locs 0 0 (MQ below (hp_Qi G rq zq) [.ref a0, .int x1].toArray s 0 0 (hp_A G)) (F0 m 44 ls []) := by
    intro w2 z H locs ls h hP hS hl
    unfold f_X4_lastNotLater_B44 at h
    refine lv_iload_n hx hb dX4_lastNotLater_44 rfl (lv_at hl 2 rfl) ?_
    exact hw_iret X hP hS hr hlocks h dX4_lastNotLater_45
  have L5 : ∀ (n5 : Nat) (w2 : Int32) (w3 : Int32) (z : hp_S) (H : Heap) (locs : List Loc) (ls : Array Slot), f_X4_lastNotLater_L5 fu a0 x1 (f_X4_lastNotLater_B44 fu a0 x1) n5 w2 w3 z = some (rq, zq) → hp_P G z H → va_S (hp_A G) s.heap H locs → lv_has ls 5 [(0, .ref a0), (1, .int x1), (2, .int w2), (3, .int w3)] → W p l e (hp_rm 0 0 0 0) s m [.ref a0, .int x1].toArray below meth c H locs 0 0 (MQ below (hp_Qi G rq zq) [.ref a0, .int x1].toArray s 0 0 (hp_A G)) (F0 m 5 ls []) := by
    intro n5
    induction n5 with
    | zero =>
      intro w2 w3 z H locs ls h
      exact nomatch (h : (none : Option (Int32 × hp_S)) = some (rq, zq))
    | succ n5 ih5 =>
      have B37 : ∀ (w2 : Int32) (w3 : Int32) (z : hp_S) (H : Heap) (locs : List Loc) (ls : Array Slot), f_X4_lastNotLater_B37 fu a0 x1 (f_X4_lastNotLater_L5 fu a0 x1 (f_X4_lastNotLater_B44 fu a0 x1) n5) (f_X4_lastNotLater_B44 fu a0 x1) w2 w3 z = some (rq, zq) → hp_P G z H → va_S (hp_A G) s.heap H locs → lv_has ls 5 [(0, .ref a0), (1, .int x1), (2, .int w2), (3, .int w3)] → W p l e (hp_rm 0 0 0 0) s m [.ref a0, .int x1].toArray below meth c H locs 0 0 (MQ below (hp_Qi G rq zq) [.ref a0, .int x1].toArray s 0 0 (hp_A G)) (F0 m 37 ls []) := by
        intro w2 w3 z H locs ls h hP hS hl
        unfold f_X4_lastNotLater_B37 at h
        refine lv_iload_n hx hb dX4_lastNotLater_37 rfl (lv_at hl 3 rfl) ?_
        refine lv_iconst (v := 2) hx hb dX4_lastNotLater_38 (by decide) ?_
        obtain ⟨v3, q, h⟩ := ho_bd h
        refine hw_dv X q dX4_lastNotLater_39 ?_
        refine lv_istore_n (lv' := [(3, .int v3), (0, .ref a0), (1, .int x1), (2, .int w2)]) hx hb dX4_lastNotLater_40 rfl hl (by decide) rfl (fun ls hl => ?_)
        refine lv_goto (tgt := 5) hx hb dX4_lastNotLater_41 (by decide) ?_
        exact ih5 w2 v3 z _ _ _ h hP hS (lv_sub hl [1, 2, 3, 0] rfl)
      intro w2 w3 z H locs ls h hP hS hl
      rw [f_X4_lastNotLater_L5] at h
      refine lv_iload_n hx hb dX4_lastNotLater_5 rfl (lv_at hl 3 rfl) ?_
      refine lv_if_le (tgt := 44) hx hb dX4_lastNotLater_6 (by decide) (fun hc => ?_) (fun hc => ?_)
      · replace h := ho_ip hc h
        exact B44 w2 z _ _ _ h hP hS (lv_sub hl [0, 1, 2] rfl)
      · replace h := ho_in hc h
        refine lv_iload_n hx hb dX4_lastNotLater_9 rfl (lv_at hl 2 rfl) ?_
        refine lv_iload_n hx hb dX4_lastNotLater_10 rfl (lv_at hl 3 rfl) ?_
        refine lv_iadd hx hb dX4_lastNotLater_11 ?_
        obtain ⟨v1, q, h⟩ := ho_bd h
        refine hw_id q ?_
        refine lv_istore (lv' := [(4, .int v1), (0, .ref a0), (1, .int x1), (2, .int w2), (3, .int w3)]) hx hb dX4_lastNotLater_12 hl (by decide) rfl (fun ls hl => ?_)
        refine lv_iload hx hb dX4_lastNotLater_14 (lv_at hl 0 rfl) ?_
        refine lv_aload_n hx hb dX4_lastNotLater_16 rfl (lv_at hl 1 rfl) ?_
        obtain ⟨v2, q, h⟩ := ho_bd h
        refine hw_gi X hP LX4 fX4_28 rfl q dX4_lastNotLater_17 ?_
        refine lv_icmp_ge (tgt := 37) hx hb dX4_lastNotLater_20 (by decide) (fun hc => ?_) (fun hc => ?_)
        · replace h := ho_ip hc h
          exact B37 w2 w3 z _ _ _ h hP hS (lv_sub hl [1, 2, 3, 4] rfl)
        · replace h := ho_in hc h
          refine lv_aload_n hx hb dX4_lastNotLater_23 rfl (lv_at hl 1 rfl) ?_
          obtain ⟨r4, q, h⟩ := ho_bd h
          refine hw_gr X hP LX4 fX4_9 rfl q dX4_lastNotLater_24 ?_
          refine lv_iload hx hb dX4_lastNotLater_27 (lv_at hl 0 rfl) ?_
          obtain ⟨v5, q, h⟩ := ho_bd h
          refine hw_li X hP q dX4_lastNotLater_29 ?_
          refine lv_iload_n hx hb dX4_lastNotLater_30 rfl (lv_at hl 2 rfl) ?_
          refine lv_icmp_gt (tgt := 37) hx hb dX4_lastNotLater_31 (by decide) (fun hc => ?_) (fun hc => ?_)
          · replace h := ho_ip hc h
            exact B37 w2 w3 z _ _ _ h hP hS (lv_sub hl [1, 2, 3, 4] rfl)
          · replace h := ho_in hc h
            refine lv_iload hx hb dX4_lastNotLater_34 (lv_at hl 0 rfl) ?_
            refine lv_istore_n (lv' := [(2, .int v1), (4, .int v1), (0, .ref a0), (1, .int x1), (3, .int w3)]) hx hb dX4_lastNotLater_36 rfl hl (by decide) rfl (fun ls hl => ?_)
            exact B37 v1 w3 z _ _ _ h hP hS (lv_sub hl [2, 3, 0, 4] rfl)
  unfold f_X4_lastNotLater at h
  refine lv_iconst (v := (-1)) hx hb dX4_lastNotLater_0 (by decide) ?_
  refine lv_istore_n (lv' := [(2, .int (-1)), (0, .ref a0), (1, .int x1)]) hx hb dX4_lastNotLater_1 rfl hl (by decide) rfl (fun ls hl => ?_)
  refine lv_bipush (v := 16) hx hb dX4_lastNotLater_2 (by decide) ?_
  refine lv_istore_n (lv' := [(3, .int 16), (2, .int (-1)), (0, .ref a0), (1, .int x1)]) hx hb dX4_lastNotLater_4 rfl hl (by decide) rfl (fun ls hl => ?_)
  exact L5 fu (-1) 16 z _ _ _ h hP hS (lv_sub hl [2, 3, 1, 0] rfl)
def f_X0_load_B104 (fu : Nat) (a0 : Nat) (a1 : Nat) (x2 : Int32) (z : hp_S) : Option hp_S :=
  some z
def f_X0_load_B98 (fu : Nat) (a0 : Nat) (a1 : Nat) (x2 : Int32) (ag : Int32 → hp_S → Option hp_S) (kk : hp_S → Option hp_S) (w3 : Int32) (z : hp_S) : Option hp_S :=
  (ho_id (w3 + 1)).bind fun v7 =>
  ag v7 z
def f_X0_load_B47 (fu : Nat) (a0 : Nat) (a1 : Nat) (x2 : Int32) (ag : Int32 → hp_S → Option hp_S) (kk : hp_S → Option hp_S) (w3 : Int32) (w4 : Nat) (w5 : Int32) (s0 : Int32) (s1 : Int32) (s2 : Nat) (z : hp_S) : Option hp_S :=
  (ho_sz s2 s1 s0 z).bind fun z =>
  (ho_gr 0 a0 0 z).bind fun r5 =>
  (ho_li 2 r5 w3 z).bind fun v6 =>
  if v6 = 0 then (
    f_X0_load_B98 fu a0 a1 x2 ag kk w3 z
  ) else (
    (ho_gr 0 a0 1 z).bind fun r8 =>
    (ho_gr 4 w4 1 z).bind fun r9 =>
    (ho_li 1 r9 w5 z).bind fun v10 =>
    (ho_si r8 w3 v10 z).bind fun z =>
    (ho_gr 0 a0 2 z).bind fun r11 =>
    (ho_gr 4 w4 2 z).bind fun r12 =>
    (ho_li 1 r12 w5 z).bind fun v13 =>
    (ho_si r11 w3 v13 z).bind fun z =>
    (ho_gr 0 a0 3 z).bind fun r14 =>
    (ho_is 4 w4 z).bind fun _ =>
    (f_X4_heightOf fu w4 w5 z).bind fun ⟨v15, z⟩ =>
    (ho_si r14 w3 v15 z).bind fun z =>
    f_X0_load_B98 fu a0 a1 x2 ag kk w3 z
  )
def f_X0_load_B46 (fu : Nat) (a0 : Nat) (a1 : Nat) (x2 : Int32) (ag : Int32 → hp_S → Option hp_S) (kk : hp_S → Option hp_S) (w3 : Int32) (w4 : Nat) (w5 : Int32) (s0 : Int32) (s1 : Nat) (z : hp_S) : Option hp_S :=
  f_X0_load_B47 fu a0 a1 x2 ag kk w3 w4 w5 0 s0 s1 z
def f_X0_load_L2 (fu : Nat) (a0 : Nat) (a1 : Nat) (x2 : Int32) (kk : hp_S → Option hp_S) : Nat → Int32 → hp_S → Option hp_S
  | 0, _, _ => none
  | n + 1, w3, z =>
    (ho_ln (4 + 53) a1 z).bind fun v1 =>
    if v1 ≤ w3 then (
      kk  z
    ) else (
      (ho_lr 4 a1 w3 z).bind fun r2 =>
      (ho_is 4 r2 z).bind fun _ =>
      (f_X4_lastNotLater fu r2 x2 z).bind fun ⟨v3, z⟩ =>
      (ho_gr 0 a0 0 z).bind fun r4 =>
      if v3 = (-1) then (
        f_X0_load_B46 fu a0 a1 x2 (f_X0_load_L2 fu a0 a1 x2 kk n) kk w3 r2 v3 w3 r4 z
      ) else (
        (ho_is 4 r2 z).bind fun _ =>
        (f_X4_isNote fu r2 v3 z).bind fun ⟨v16, z⟩ =>
        if v16 = 0 then (
          f_X0_load_B46 fu a0 a1 x2 (f_X0_load_L2 fu a0 a1 x2 kk n) kk w3 r2 v3 w3 r4 z
        ) else (
          f_X0_load_B47 fu a0 a1 x2 (f_X0_load_L2 fu a0 a1 x2 kk n) kk w3 r2 v3 1 w3 r4 z
        )
      )
    )
def f_X0_load (fu : Nat) (a0 : Nat) (a1 : Nat) (x2 : Int32) (z : hp_S) : Option hp_S :=
  f_X0_load_L2 fu a0 a1 x2 (f_X0_load_B104 fu a0 a1 x2) fu 0 z
set_option maxHeartbeats 4000000 in
set_option maxRecDepth 100000 in
theorem c_X0_load (l : Launch) (G : hp_G) (fu : Nat) (a0 : Nat) (a1 : Nat) (x2 : Int32) (z zq : hp_S) (h : f_X0_load fu a0 a1 x2 z = some zq) : hp_M l G yX0_load cX0_load 6 none 1 24 0 0 [.ref a0, .ref a1, .int x2] z (hp_Qv G zq) := by
  refine hp_M.of (by decide) (Nat.le_of_ble_eq_true rfl) ?_
  intro p e s m below meth c X hr hlocks hnm hP hS ls hl
  have X : hp_C G cX0_load RX0 6 p s m c := X
  have hl : lv_has ls 6 [(0, .ref a0), (1, .ref a1), (2, .int x2)] := hl
  have hx := X.1
  have hb := X.2.1
  have B104 : ∀ (z : hp_S) (H : Heap) (locs : List Loc) (ls : Array Slot), f_X0_load_B104 fu a0 a1 x2 z = some zq → hp_P G z H → va_S (hp_A G) s.heap H locs → lv_has ls 6 [(0, .ref a0), (1, .ref a1), (2, .int x2)] → W p l e (hp_rm 1 24 0 0) s m [.ref a0, .ref a1, .int x2].toArray below meth c H locs 0 0 (MQ below (hp_Qv G zq) [.ref a0, .ref a1, .int x2].toArray s 0 0 (hp_A G)) (F0 m 104 ls []) := by
    intro z H locs ls h hP hS hl
    unfold f_X0_load_B104 at h
    exact hw_vret X hP hS hr hlocks h dX0_load_104
  have L2 : ∀ (n2 : Nat) (w3 : Int32) (z : hp_S) (H : Heap) (locs : List Loc) (ls : Array Slot), f_X0_load_L2 fu a0 a1 x2 (f_X0_load_B104 fu a0 a1 x2) n2 w3 z = some zq → hp_P G z H → va_S (hp_A G) s.heap H locs → lv_has ls 6 [(0, .ref a0), (1, .ref a1), (2, .int x2), (3, .int w3)] → W p l e (hp_rm 1 24 0 0) s m [.ref a0, .ref a1, .int x2].toArray below meth c H locs 0 0 (MQ below (hp_Qv G zq) [.ref a0, .ref a1, .int x2].toArray s 0 0 (hp_A G)) (F0 m 2 ls []) := by
    intro n2
    induction n2 with
    | zero =>
      intro w3 z H locs ls h
      exact nomatch (h : (none : Option hp_S) = some zq)
    | succ n2 ih2 =>
      have B98 : ∀ (w3 : Int32) (z : hp_S) (H : Heap) (locs : List Loc) (ls : Array Slot), f_X0_load_B98 fu a0 a1 x2 (f_X0_load_L2 fu a0 a1 x2 (f_X0_load_B104 fu a0 a1 x2) n2) (f_X0_load_B104 fu a0 a1 x2) w3 z = some zq → hp_P G z H → va_S (hp_A G) s.heap H locs → lv_has ls 6 [(0, .ref a0), (1, .ref a1), (2, .int x2), (3, .int w3)] → W p l e (hp_rm 1 24 0 0) s m [.ref a0, .ref a1, .int x2].toArray below meth c H locs 0 0 (MQ below (hp_Qv G zq) [.ref a0, .ref a1, .int x2].toArray s 0 0 (hp_A G)) (F0 m 98 ls []) := by
        intro w3 z H locs ls h hP hS hl
        unfold f_X0_load_B98 at h
        obtain ⟨v7, q, h⟩ := ho_bd h
        refine lv_iinc (v := v7) (lv' := [(3, .int v7), (0, .ref a0), (1, .ref a1), (2, .int x2)]) hx hb dX0_load_98 hl (k := 3) rfl (Option.some.inj q) (by decide) rfl (fun ls hl => ?_)
        refine lv_goto (tgt := 2) hx hb dX0_load_101 (by decide) ?_
        exact ih2 v7 z _ _ _ h hP hS (lv_sub hl [1, 2, 3, 0] rfl)
      have B47 : ∀ (w3 : Int32) (w4 : Nat) (w5 : Int32) (s0 : Int32) (s1 : Int32) (s2 : Nat) (z : hp_S) (H : Heap) (locs : List Loc) (ls : Array Slot), f_X0_load_B47 fu a0 a1 x2 (f_X0_load_L2 fu a0 a1 x2 (f_X0_load_B104 fu a0 a1 x2) n2) (f_X0_load_B104 fu a0 a1 x2) w3 w4 w5 s0 s1 s2 z = some zq → hp_P G z H → va_S (hp_A G) s.heap H locs → lv_has ls 6 [(0, .ref a0), (1, .ref a1), (2, .int x2), (3, .int w3), (4, .ref w4), (5, .int w5)] → W p l e (hp_rm 1 24 0 0) s m [.ref a0, .ref a1, .int x2].toArray below meth c H locs 0 0 (MQ below (hp_Qv G zq) [.ref a0, .ref a1, .int x2].toArray s 0 0 (hp_A G)) (F0 m 47 ls [.int s0, .int s1, .ref s2]) := by
        intro w3 w4 w5 s0 s1 s2 z H locs ls h hP hS hl
        unfold f_X0_load_B47 at h
        obtain ⟨z, q, h⟩ := ho_bd h
        refine hw_sz X hP hS q dX0_load_47 (fun H locs hP hS => ?_)
        refine lv_aload_n hx hb dX0_load_48 rfl (lv_at hl 0 rfl) ?_
        obtain ⟨r5, q, h⟩ := ho_bd h
        refine hw_gr X hP LX0 fX0_9 rfl q dX0_load_49 ?_
        refine lv_iload_n hx hb dX0_load_52 rfl (lv_at hl 3 rfl) ?_
        obtain ⟨v6, q, h⟩ := ho_bd h
        refine hw_lz X hP q dX0_load_53 ?_
        refine lv_if_eq (tgt := 98) hx hb dX0_load_54 (by decide) (fun hc => ?_) (fun hc => ?_)
        · replace h := ho_ip hc h
          exact B98 w3 z _ _ _ h hP hS (lv_sub hl [0, 1, 2, 3] rfl)
        · replace h := ho_in hc h
          refine lv_aload_n hx hb dX0_load_57 rfl (lv_at hl 0 rfl) ?_
          obtain ⟨r8, q, h⟩ := ho_bd h
          refine hw_gr X hP LX0 fX0_15 rfl q dX0_load_58 ?_
          refine lv_iload_n hx hb dX0_load_61 rfl (lv_at hl 3 rfl) ?_
          refine lv_aload hx hb dX0_load_62 (lv_at hl 4 rfl) ?_
          obtain ⟨r9, q, h⟩ := ho_bd h
          refine hw_gr X hP LX4 fX0_35 rfl q dX0_load_64 ?_
          refine lv_iload hx hb dX0_load_67 (lv_at hl 5 rfl) ?_
          obtain ⟨v10, q, h⟩ := ho_bd h
          refine hw_li X hP q dX0_load_69 ?_
          obtain ⟨z, q, h⟩ := ho_bd h
          refine hw_si X hP hS q dX0_load_70 (fun H locs hP hS => ?_)
          refine lv_aload_n hx hb dX0_load_71 rfl (lv_at hl 0 rfl) ?_
          obtain ⟨r11, q, h⟩ := ho_bd h
          refine hw_gr X hP LX0 fX0_19 rfl q dX0_load_72 ?_
          refine lv_iload_n hx hb dX0_load_75 rfl (lv_at hl 3 rfl) ?_
          refine lv_aload hx hb dX0_load_76 (lv_at hl 4 rfl) ?_
          obtain ⟨r12, q, h⟩ := ho_bd h
          refine hw_gr X hP LX4 fX0_36 rfl q dX0_load_78 ?_
          refine lv_iload hx hb dX0_load_81 (lv_at hl 5 rfl) ?_
          obtain ⟨v13, q, h⟩ := ho_bd h
          refine hw_li X hP q dX0_load_83 ?_
          obtain ⟨z, q, h⟩ := ho_bd h
          refine hw_si X hP hS q dX0_load_84 (fun H locs hP hS => ?_)
          refine lv_aload_n hx hb dX0_load_85 rfl (lv_at hl 0 rfl) ?_
          obtain ⟨r14, q, h⟩ := ho_bd h
          refine hw_gr X hP LX0 fX0_22 rfl q dX0_load_86 ?_
          refine lv_iload_n hx hb dX0_load_89 rfl (lv_at hl 3 rfl) ?_
          refine lv_aload hx hb dX0_load_90 (lv_at hl 4 rfl) ?_
          refine lv_iload hx hb dX0_load_92 (lv_at hl 5 rfl) ?_
          obtain ⟨_, hs, h⟩ := ho_bd h
          obtain ⟨⟨v15, z⟩, q, h⟩ := ho_bd h
          refine hw_ci hS (hp_runV (As := [.int w5]) (rest := [.int w3, .ref r14]) X hP hS hl.1 LX4 (ho_is_s hs) kX0_37 ⟨m2_95, m2_96⟩ (c_X4_heightOf l G fu w4 w5 _ _ _ q) rfl (Nat.le_of_ble_eq_true rfl) ⟨⟨Nat.le_of_ble_eq_true rfl, Nat.le_of_ble_eq_true rfl⟩, Nat.le_of_ble_eq_true rfl, Nat.le_of_ble_eq_true rfl⟩ dX0_load_94) (fun H locs hP hS => ?_)
          obtain ⟨z, q, h⟩ := ho_bd h
          refine hw_si X hP hS q dX0_load_97 (fun H locs hP hS => ?_)
          exact B98 w3 z _ _ _ h hP hS (lv_sub hl [0, 1, 2, 3] rfl)
      have B46 : ∀ (w3 : Int32) (w4 : Nat) (w5 : Int32) (s0 : Int32) (s1 : Nat) (z : hp_S) (H : Heap) (locs : List Loc) (ls : Array Slot), f_X0_load_B46 fu a0 a1 x2 (f_X0_load_L2 fu a0 a1 x2 (f_X0_load_B104 fu a0 a1 x2) n2) (f_X0_load_B104 fu a0 a1 x2) w3 w4 w5 s0 s1 z = some zq → hp_P G z H → va_S (hp_A G) s.heap H locs → lv_has ls 6 [(0, .ref a0), (1, .ref a1), (2, .int x2), (3, .int w3), (4, .ref w4), (5, .int w5)] → W p l e (hp_rm 1 24 0 0) s m [.ref a0, .ref a1, .int x2].toArray below meth c H locs 0 0 (MQ below (hp_Qv G zq) [.ref a0, .ref a1, .int x2].toArray s 0 0 (hp_A G)) (F0 m 46 ls [.int s0, .ref s1]) := by
        intro w3 w4 w5 s0 s1 z H locs ls h hP hS hl
        unfold f_X0_load_B46 at h
        refine lv_iconst (v := 0) hx hb dX0_load_46 (by decide) ?_
        exact B47 w3 w4 w5 0 s0 s1 z _ _ _ h hP hS (lv_sub hl [0, 1, 2, 3, 4, 5] rfl)
      intro w3 z H locs ls h hP hS hl
      rw [f_X0_load_L2] at h
      refine lv_iload_n hx hb dX0_load_2 rfl (lv_at hl 3 rfl) ?_
      refine lv_aload_n hx hb dX0_load_3 rfl (lv_at hl 1 rfl) ?_
      obtain ⟨v1, q, h⟩ := ho_bd h
      refine hw_lnr (t0 := 2) X hP rfl q dX0_load_4 ?_
      refine lv_icmp_ge (tgt := 104) hx hb dX0_load_5 (by decide) (fun hc => ?_) (fun hc => ?_)
      · replace h := ho_ip hc h
        exact B104 z _ _ _ h hP hS (lv_sub hl [0, 1, 2] rfl)
      · replace h := ho_in hc h
        refine lv_aload_n hx hb dX0_load_8 rfl (lv_at hl 1 rfl) ?_
        refine lv_iload_n hx hb dX0_load_9 rfl (lv_at hl 3 rfl) ?_
        obtain ⟨r2, q, h⟩ := ho_bd h
        refine hw_lr (t0 := 2) X hP rfl q dX0_load_10 ?_
        refine lv_astore (lv' := [(4, .ref r2), (0, .ref a0), (1, .ref a1), (2, .int x2), (3, .int w3)]) hx hb dX0_load_11 hl (by decide) rfl (fun ls hl => ?_)
        refine lv_aload hx hb dX0_load_13 (lv_at hl 0 rfl) ?_
        refine lv_iload_n hx hb dX0_load_15 rfl (lv_at hl 3 rfl) ?_
        obtain ⟨_, hs, h⟩ := ho_bd h
        obtain ⟨⟨v3, z⟩, q, h⟩ := ho_bd h
        refine hw_ci hS (hp_runV (As := [.int x2]) (rest := []) X hP hS hl.1 LX4 (ho_is_s hs) kX0_25 ⟨m2_163, m2_164⟩ (c_X4_lastNotLater l G fu r2 x2 _ _ _ q) rfl (Nat.le_of_ble_eq_true rfl) ⟨⟨Nat.le_of_ble_eq_true rfl, Nat.le_of_ble_eq_true rfl⟩, Nat.le_of_ble_eq_true rfl, Nat.le_of_ble_eq_true rfl⟩ dX0_load_16) (fun H locs hP hS => ?_)
        refine lv_istore (lv' := [(5, .int v3), (4, .ref r2), (0, .ref a0), (1, .ref a1), (2, .int x2), (3, .int w3)]) hx hb dX0_load_19 hl (by decide) rfl (fun ls hl => ?_)
        refine lv_aload_n hx hb dX0_load_21 rfl (lv_at hl 2 rfl) ?_
        obtain ⟨r4, q, h⟩ := ho_bd h
        refine hw_gr X hP LX0 fX0_9 rfl q dX0_load_22 ?_
        refine lv_iload_n hx hb dX0_load_25 rfl (lv_at hl 5 rfl) ?_
        refine lv_iload hx hb dX0_load_26 (lv_at hl 0 rfl) ?_
        refine lv_iconst (v := (-1)) hx hb dX0_load_28 (by decide) ?_
        refine lv_icmp_eq (tgt := 46) hx hb dX0_load_29 (by decide) (fun hc => ?_) (fun hc => ?_)
        · replace h := ho_ip hc h
          exact B46 w3 r2 v3 w3 r4 z _ _ _ h hP hS (lv_sub hl [2, 3, 4, 5, 1, 0] rfl)
        · replace h := ho_in hc h
          refine lv_aload hx hb dX0_load_32 (lv_at hl 1 rfl) ?_
          refine lv_iload hx hb dX0_load_34 (lv_at hl 0 rfl) ?_
          obtain ⟨_, hs, h⟩ := ho_bd h
          obtain ⟨⟨v16, z⟩, q, h⟩ := ho_bd h
          refine hw_ci hS (hp_runV (As := [.int v3]) (rest := [.int w3, .ref r4]) X hP hS hl.1 LX4 (ho_is_s hs) kX0_31 ⟨m2_91, m2_92⟩ (c_X4_isNote l G fu r2 v3 _ _ _ q) rfl (Nat.le_of_ble_eq_true rfl) ⟨⟨Nat.le_of_ble_eq_true rfl, Nat.le_of_ble_eq_true rfl⟩, Nat.le_of_ble_eq_true rfl, Nat.le_of_ble_eq_true rfl⟩ dX0_load_36) (fun H locs hP hS => ?_)
          refine lv_if_eq (tgt := 46) hx hb dX0_load_39 (by decide) (fun hc => ?_) (fun hc => ?_)
          · replace h := ho_ip hc h
            exact B46 w3 r2 v3 w3 r4 z _ _ _ h hP hS (lv_sub hl [2, 3, 4, 5, 1, 0] rfl)
          · replace h := ho_in hc h
            refine lv_iconst (v := 1) hx hb dX0_load_42 (by decide) ?_
            refine lv_goto (tgt := 47) hx hb dX0_load_43 (by decide) ?_
            exact B47 w3 r2 v3 1 w3 r4 z _ _ _ h hP hS (lv_sub hl [2, 3, 4, 5, 1, 0] rfl)
  unfold f_X0_load at h
  refine lv_iconst (v := 0) hx hb dX0_load_0 (by decide) ?_
  refine lv_istore_n (lv' := [(3, .int 0), (0, .ref a0), (1, .ref a1), (2, .int x2)]) hx hb dX0_load_1 rfl hl (by decide) rfl (fun ls hl => ?_)
  exact L2 fu 0 z _ _ _ h hP hS (lv_sub hl [1, 2, 3, 0] rfl)
def f_X3_goes_B29 (fu : Nat) (a0 : Nat) (x1 : Int32) (s0 : Int32) (z : hp_S) : Option (Int32 × hp_S) :=
  if vp_nar .boolean s0 = s0 then some (s0, z) else none
def f_X3_goes_B28 (fu : Nat) (a0 : Nat) (x1 : Int32) (z : hp_S) : Option (Int32 × hp_S) :=
  f_X3_goes_B29 fu a0 x1 0 z
def f_X3_goes (fu : Nat) (a0 : Nat) (x1 : Int32) (z : hp_S) : Option (Int32 × hp_S) :=
  (ho_gr 3 a0 1 z).bind fun r1 =>
  (ho_gr 0 r1 0 z).bind fun r2 =>
  (ho_li 2 r2 x1 z).bind fun v3 =>
  if v3 = 0 then (
    f_X3_goes_B28 fu a0 x1  z
  ) else (
    (ho_gr 3 a0 2 z).bind fun r4 =>
    (ho_gr 0 r4 0 z).bind fun r5 =>
    (ho_li 2 r5 x1 z).bind fun v6 =>
    if v6 = 0 then (
      f_X3_goes_B28 fu a0 x1  z
    ) else (
      f_X3_goes_B29 fu a0 x1 1 z
    )
  )
set_option maxHeartbeats 4000000 in
set_option maxRecDepth 100000 in
theorem c_X3_goes (l : Launch) (G : hp_G) (fu : Nat) (a0 : Nat) (x1 : Int32) (z : hp_S) (rq : Int32) (zq : hp_S) (h : f_X3_goes fu a0 x1 z = some (rq, zq)) : hp_M l G yX3_goes cX3_goes 2 (some .boolean) 0 0 0 0 [.ref a0, .int x1] z (hp_Qi G rq zq) := by
  refine hp_M.of (by decide) (Nat.le_of_ble_eq_true rfl) ?_
  intro p e s m below meth c X hr hlocks hnm hP hS ls hl
  have X : hp_C G cX3_goes RX3 2 p s m c := X
  have hl : lv_has ls 2 [(0, .ref a0), (1, .int x1)] := hl
  have hx := X.1
  have hb := X.2.1
  have B29 : ∀ (s0 : Int32) (z : hp_S) (H : Heap) (locs : List Loc) (ls : Array Slot), f_X3_goes_B29 fu a0 x1 s0 z = some (rq, zq) → hp_P G z H → va_S (hp_A G) s.heap H locs → lv_has ls 2 [(0, .ref a0), (1, .int x1)] → W p l e (hp_rm 0 0 0 0) s m [.ref a0, .int x1].toArray below meth c H locs 0 0 (MQ below (hp_Qi G rq zq) [.ref a0, .int x1].toArray s 0 0 (hp_A G)) (F0 m 29 ls [.int s0]) := by
    intro s0 z H locs ls h hP hS hl
    unfold f_X3_goes_B29 at h
    exact hw_zret X hP hS hr hlocks h dX3_goes_29
  have B28 : ∀ (z : hp_S) (H : Heap) (locs : List Loc) (ls : Array Slot), f_X3_goes_B28 fu a0 x1 z = some (rq, zq) → hp_P G z H → va_S (hp_A G) s.heap H locs → lv_has ls 2 [(0, .ref a0), (1, .int x1)] → W p l e (hp_rm 0 0 0 0) s m [.ref a0, .int x1].toArray below meth c H locs 0 0 (MQ below (hp_Qi G rq zq) [.ref a0, .int x1].toArray s 0 0 (hp_A G)) (F0 m 28 ls []) := by
    intro z H locs ls h hP hS hl
    unfold f_X3_goes_B28 at h
    refine lv_iconst (v := 0) hx hb dX3_goes_28 (by decide) ?_
    exact B29 0 z _ _ _ h hP hS (lv_sub hl [0, 1] rfl)
  unfold f_X3_goes at h
  refine lv_aload_n hx hb dX3_goes_0 rfl (lv_at hl 0 rfl) ?_
  obtain ⟨r1, q, h⟩ := ho_bd h
  refine hw_gr X hP LX3 fX3_21 rfl q dX3_goes_1 ?_
  obtain ⟨r2, q, h⟩ := ho_bd h
  refine hw_gr X hP LX0 fX3_93 rfl q dX3_goes_4 ?_
  refine lv_iload_n hx hb dX3_goes_7 rfl (lv_at hl 1 rfl) ?_
  obtain ⟨v3, q, h⟩ := ho_bd h
  refine hw_lz X hP q dX3_goes_8 ?_
  refine lv_if_eq (tgt := 28) hx hb dX3_goes_9 (by decide) (fun hc => ?_) (fun hc => ?_)
  · replace h := ho_ip hc h
    exact B28 z _ _ _ h hP hS (lv_sub hl [0, 1] rfl)
  · replace h := ho_in hc h
    refine lv_aload_n hx hb dX3_goes_12 rfl (lv_at hl 0 rfl) ?_
    obtain ⟨r4, q, h⟩ := ho_bd h
    refine hw_gr X hP LX3 fX3_25 rfl q dX3_goes_13 ?_
    obtain ⟨r5, q, h⟩ := ho_bd h
    refine hw_gr X hP LX0 fX3_93 rfl q dX3_goes_16 ?_
    refine lv_iload_n hx hb dX3_goes_19 rfl (lv_at hl 1 rfl) ?_
    obtain ⟨v6, q, h⟩ := ho_bd h
    refine hw_lz X hP q dX3_goes_20 ?_
    refine lv_if_eq (tgt := 28) hx hb dX3_goes_21 (by decide) (fun hc => ?_) (fun hc => ?_)
    · replace h := ho_ip hc h
      exact B28 z _ _ _ h hP hS (lv_sub hl [0, 1] rfl)
    · replace h := ho_in hc h
      refine lv_iconst (v := 1) hx hb dX3_goes_24 (by decide) ?_
      refine lv_goto (tgt := 29) hx hb dX3_goes_25 (by decide) ?_
      exact B29 1 z _ _ _ h hP hS (lv_sub hl [0, 1] rfl)
def f_X3_moves_B55 (fu : Nat) (a0 : Nat) (x1 : Int32) (s0 : Int32) (z : hp_S) : Option (Int32 × hp_S) :=
  if vp_nar .boolean s0 = s0 then some (s0, z) else none
def f_X3_moves_B54 (fu : Nat) (a0 : Nat) (x1 : Int32) (z : hp_S) : Option (Int32 × hp_S) :=
  f_X3_moves_B55 fu a0 x1 0 z
def f_X3_moves_B50 (fu : Nat) (a0 : Nat) (x1 : Int32) (z : hp_S) : Option (Int32 × hp_S) :=
  f_X3_moves_B55 fu a0 x1 1 z
def f_X3_moves (fu : Nat) (a0 : Nat) (x1 : Int32) (z : hp_S) : Option (Int32 × hp_S) :=
  (ho_is 3 a0 z).bind fun _ =>
  (f_X3_goes fu a0 x1 z).bind fun ⟨v1, z⟩ =>
  if v1 = 0 then (
    f_X3_moves_B54 fu a0 x1  z
  ) else (
    (ho_gr 3 a0 1 z).bind fun r2 =>
    (ho_gr 0 r2 1 z).bind fun r3 =>
    (ho_li 1 r3 x1 z).bind fun v4 =>
    (ho_gr 3 a0 2 z).bind fun r5 =>
    (ho_gr 0 r5 1 z).bind fun r6 =>
    (ho_li 1 r6 x1 z).bind fun v7 =>
    if v4 = v7 then (
      (ho_gr 3 a0 1 z).bind fun r8 =>
      (ho_gr 0 r8 2 z).bind fun r9 =>
      (ho_li 1 r9 x1 z).bind fun v10 =>
      (ho_gr 3 a0 2 z).bind fun r11 =>
      (ho_gr 0 r11 2 z).bind fun r12 =>
      (ho_li 1 r12 x1 z).bind fun v13 =>
      if v10 = v13 then (
        f_X3_moves_B54 fu a0 x1  z
      ) else (
        f_X3_moves_B50 fu a0 x1  z
      )
    ) else (
      f_X3_moves_B50 fu a0 x1  z
    )
  )
set_option maxHeartbeats 4000000 in
set_option maxRecDepth 100000 in
theorem c_X3_moves (l : Launch) (G : hp_G) (fu : Nat) (a0 : Nat) (x1 : Int32) (z : hp_S) (rq : Int32) (zq : hp_S) (h : f_X3_moves fu a0 x1 z = some (rq, zq)) : hp_M l G yX3_moves cX3_moves 2 (some .boolean) 1 21 0 0 [.ref a0, .int x1] z (hp_Qi G rq zq) := by
  refine hp_M.of (by decide) (Nat.le_of_ble_eq_true rfl) ?_
  intro p e s m below meth c X hr hlocks hnm hP hS ls hl
  have X : hp_C G cX3_moves RX3 2 p s m c := X
  have hl : lv_has ls 2 [(0, .ref a0), (1, .int x1)] := hl
  have hx := X.1
  have hb := X.2.1
  have B55 : ∀ (s0 : Int32) (z : hp_S) (H : Heap) (locs : List Loc) (ls : Array Slot), f_X3_moves_B55 fu a0 x1 s0 z = some (rq, zq) → hp_P G z H → va_S (hp_A G) s.heap H locs → lv_has ls 2 [(0, .ref a0), (1, .int x1)] → W p l e (hp_rm 1 21 0 0) s m [.ref a0, .int x1].toArray below meth c H locs 0 0 (MQ below (hp_Qi G rq zq) [.ref a0, .int x1].toArray s 0 0 (hp_A G)) (F0 m 55 ls [.int s0]) := by
    intro s0 z H locs ls h hP hS hl
    unfold f_X3_moves_B55 at h
    exact hw_zret X hP hS hr hlocks h dX3_moves_55
  have B54 : ∀ (z : hp_S) (H : Heap) (locs : List Loc) (ls : Array Slot), f_X3_moves_B54 fu a0 x1 z = some (rq, zq) → hp_P G z H → va_S (hp_A G) s.heap H locs → lv_has ls 2 [(0, .ref a0), (1, .int x1)] → W p l e (hp_rm 1 21 0 0) s m [.ref a0, .int x1].toArray below meth c H locs 0 0 (MQ below (hp_Qi G rq zq) [.ref a0, .int x1].toArray s 0 0 (hp_A G)) (F0 m 54 ls []) := by
    intro z H locs ls h hP hS hl
    unfold f_X3_moves_B54 at h
    refine lv_iconst (v := 0) hx hb dX3_moves_54 (by decide) ?_
    exact B55 0 z _ _ _ h hP hS (lv_sub hl [0, 1] rfl)
  have B50 : ∀ (z : hp_S) (H : Heap) (locs : List Loc) (ls : Array Slot), f_X3_moves_B50 fu a0 x1 z = some (rq, zq) → hp_P G z H → va_S (hp_A G) s.heap H locs → lv_has ls 2 [(0, .ref a0), (1, .int x1)] → W p l e (hp_rm 1 21 0 0) s m [.ref a0, .int x1].toArray below meth c H locs 0 0 (MQ below (hp_Qi G rq zq) [.ref a0, .int x1].toArray s 0 0 (hp_A G)) (F0 m 50 ls []) := by
    intro z H locs ls h hP hS hl
    unfold f_X3_moves_B50 at h
    refine lv_iconst (v := 1) hx hb dX3_moves_50 (by decide) ?_
    refine lv_goto (tgt := 55) hx hb dX3_moves_51 (by decide) ?_
    exact B55 1 z _ _ _ h hP hS (lv_sub hl [0, 1] rfl)
  unfold f_X3_moves at h
  refine lv_aload_n hx hb dX3_moves_0 rfl (lv_at hl 0 rfl) ?_
  refine lv_iload_n hx hb dX3_moves_1 rfl (lv_at hl 1 rfl) ?_
  obtain ⟨_, hs, h⟩ := ho_bd h
  obtain ⟨⟨v1, z⟩, q, h⟩ := ho_bd h
  refine hw_ci hS (hp_runV (As := [.int x1]) (rest := []) X hP hS hl.1 LX3 (ho_is_s hs) kX3_97 ⟨m2_174, mp_7⟩ (c_X3_goes l G fu a0 x1 _ _ _ q) rfl (Nat.le_of_ble_eq_true rfl) ⟨⟨Nat.le_of_ble_eq_true rfl, Nat.le_of_ble_eq_true rfl⟩, Nat.le_of_ble_eq_true rfl, Nat.le_of_ble_eq_true rfl⟩ dX3_moves_2) (fun H locs hP hS => ?_)
  refine lv_if_eq (tgt := 54) hx hb dX3_moves_5 (by decide) (fun hc => ?_) (fun hc => ?_)
  · replace h := ho_ip hc h
    exact B54 z _ _ _ h hP hS (lv_sub hl [0, 1] rfl)
  · replace h := ho_in hc h
    refine lv_aload_n hx hb dX3_moves_8 rfl (lv_at hl 0 rfl) ?_
    obtain ⟨r2, q, h⟩ := ho_bd h
    refine hw_gr X hP LX3 fX3_21 rfl q dX3_moves_9 ?_
    obtain ⟨r3, q, h⟩ := ho_bd h
    refine hw_gr X hP LX0 fX3_142 rfl q dX3_moves_12 ?_
    refine lv_iload_n hx hb dX3_moves_15 rfl (lv_at hl 1 rfl) ?_
    obtain ⟨v4, q, h⟩ := ho_bd h
    refine hw_li X hP q dX3_moves_16 ?_
    refine lv_aload_n hx hb dX3_moves_17 rfl (lv_at hl 0 rfl) ?_
    obtain ⟨r5, q, h⟩ := ho_bd h
    refine hw_gr X hP LX3 fX3_25 rfl q dX3_moves_18 ?_
    obtain ⟨r6, q, h⟩ := ho_bd h
    refine hw_gr X hP LX0 fX3_142 rfl q dX3_moves_21 ?_
    refine lv_iload_n hx hb dX3_moves_24 rfl (lv_at hl 1 rfl) ?_
    obtain ⟨v7, q, h⟩ := ho_bd h
    refine hw_li X hP q dX3_moves_25 ?_
    refine lv_icmp_ne (tgt := 50) hx hb dX3_moves_26 (by decide) (fun hc => ?_) (fun hc => ?_)
    · replace h := ho_in hc h
      exact B50 z _ _ _ h hP hS (lv_sub hl [0, 1] rfl)
    · replace h := ho_ip hc h
      refine lv_aload_n hx hb dX3_moves_29 rfl (lv_at hl 0 rfl) ?_
      obtain ⟨r8, q, h⟩ := ho_bd h
      refine hw_gr X hP LX3 fX3_21 rfl q dX3_moves_30 ?_
      obtain ⟨r9, q, h⟩ := ho_bd h
      refine hw_gr X hP LX0 fX3_169 rfl q dX3_moves_33 ?_
      refine lv_iload_n hx hb dX3_moves_36 rfl (lv_at hl 1 rfl) ?_
      obtain ⟨v10, q, h⟩ := ho_bd h
      refine hw_li X hP q dX3_moves_37 ?_
      refine lv_aload_n hx hb dX3_moves_38 rfl (lv_at hl 0 rfl) ?_
      obtain ⟨r11, q, h⟩ := ho_bd h
      refine hw_gr X hP LX3 fX3_25 rfl q dX3_moves_39 ?_
      obtain ⟨r12, q, h⟩ := ho_bd h
      refine hw_gr X hP LX0 fX3_169 rfl q dX3_moves_42 ?_
      refine lv_iload_n hx hb dX3_moves_45 rfl (lv_at hl 1 rfl) ?_
      obtain ⟨v13, q, h⟩ := ho_bd h
      refine hw_li X hP q dX3_moves_46 ?_
      refine lv_icmp_eq (tgt := 54) hx hb dX3_moves_47 (by decide) (fun hc => ?_) (fun hc => ?_)
      · replace h := ho_ip hc h
        exact B54 z _ _ _ h hP hS (lv_sub hl [0, 1] rfl)
      · replace h := ho_in hc h
        exact B50 z _ _ _ h hP hS (lv_sub hl [0, 1] rfl)
def f_X2_mark_B41 (fu : Nat) (a0 : Nat) (x1 : Int32) (x2 : Int32) (x3 : Int32) (x4 : Int32) (z : hp_S) : Option hp_S :=
  some z
def f_X2_mark (fu : Nat) (a0 : Nat) (x1 : Int32) (x2 : Int32) (x3 : Int32) (x4 : Int32) (z : hp_S) : Option hp_S :=
  (ho_id ((x1 * 14) + x2)).bind fun v1 =>
  if v1 < 0 then (
    f_X2_mark_B41 fu a0 x1 x2 x3 x4  z
  ) else (
    (ho_gr 2 a0 0 z).bind fun r2 =>
    (ho_ln 1 r2 z).bind fun v3 =>
    if v3 ≤ v1 then (
      f_X2_mark_B41 fu a0 x1 x2 x3 x4  z
    ) else (
      (ho_gr 2 a0 0 z).bind fun r4 =>
      (ho_li 1 r4 v1 z).bind fun v5 =>
      (ho_si r4 v1 (v5 ||| (1 <<< (((x3 * 5) + x4) &&& 31))) z).bind fun z =>
      f_X2_mark_B41 fu a0 x1 x2 x3 x4  z
    )
  )
set_option maxHeartbeats 4000000 in
set_option maxRecDepth 100000 in
theorem c_X2_mark (l : Launch) (G : hp_G) (fu : Nat) (a0 : Nat) (x1 : Int32) (x2 : Int32) (x3 : Int32) (x4 : Int32) (z zq : hp_S) (h : f_X2_mark fu a0 x1 x2 x3 x4 z = some zq) : hp_M l G yX2_mark cX2_mark 6 none 0 0 0 0 [.ref a0, .int x1, .int x2, .int x3, .int x4] z (hp_Qv G zq) := by
  refine hp_M.of (by decide) (Nat.le_of_ble_eq_true rfl) ?_
  intro p e s m below meth c X hr hlocks hnm hP hS ls hl
  have X : hp_C G cX2_mark RX2 6 p s m c := X
  have hl : lv_has ls 6 [(0, .ref a0), (1, .int x1), (2, .int x2), (3, .int x3), (4, .int x4)] := hl
  have hx := X.1
  have hb := X.2.1
  have B41 : ∀ (z : hp_S) (H : Heap) (locs : List Loc) (ls : Array Slot), f_X2_mark_B41 fu a0 x1 x2 x3 x4 z = some zq → hp_P G z H → va_S (hp_A G) s.heap H locs → lv_has ls 6 [(0, .ref a0), (1, .int x1), (2, .int x2), (3, .int x3), (4, .int x4)] → W p l e (hp_rm 0 0 0 0) s m [.ref a0, .int x1, .int x2, .int x3, .int x4].toArray below meth c H locs 0 0 (MQ below (hp_Qv G zq) [.ref a0, .int x1, .int x2, .int x3, .int x4].toArray s 0 0 (hp_A G)) (F0 m 41 ls []) := by
    intro z H locs ls h hP hS hl
    unfold f_X2_mark_B41 at h
    exact hw_vret X hP hS hr hlocks h dX2_mark_41
  unfold f_X2_mark at h
  refine lv_iload_n hx hb dX2_mark_0 rfl (lv_at hl 1 rfl) ?_
  refine lv_bipush (v := 14) hx hb dX2_mark_1 (by decide) ?_
  refine lv_imul hx hb dX2_mark_3 ?_
  refine lv_iload_n hx hb dX2_mark_4 rfl (lv_at hl 2 rfl) ?_
  refine lv_iadd hx hb dX2_mark_5 ?_
  obtain ⟨v1, q, h⟩ := ho_bd h
  refine hw_id q ?_
  refine lv_istore (lv' := [(5, .int v1), (0, .ref a0), (1, .int x1), (2, .int x2), (3, .int x3), (4, .int x4)]) hx hb dX2_mark_6 hl (by decide) rfl (fun ls hl => ?_)
  refine lv_iload hx hb dX2_mark_8 (lv_at hl 0 rfl) ?_
  refine lv_if_lt (tgt := 41) hx hb dX2_mark_10 (by decide) (fun hc => ?_) (fun hc => ?_)
  · replace h := ho_ip hc h
    exact B41 z _ _ _ h hP hS (lv_sub hl [1, 2, 3, 4, 5] rfl)
  · replace h := ho_in hc h
    refine lv_iload hx hb dX2_mark_13 (lv_at hl 0 rfl) ?_
    refine lv_aload_n hx hb dX2_mark_15 rfl (lv_at hl 1 rfl) ?_
    obtain ⟨r2, q, h⟩ := ho_bd h
    refine hw_gr X hP LX2 fX2_9 rfl q dX2_mark_16 ?_
    obtain ⟨v3, q, h⟩ := ho_bd h
    refine hw_ln (t0 := 0) X hP (by decide) (by decide) rfl q dX2_mark_19 ?_
    refine lv_icmp_ge (tgt := 41) hx hb dX2_mark_20 (by decide) (fun hc => ?_) (fun hc => ?_)
    · replace h := ho_ip hc h
      exact B41 z _ _ _ h hP hS (lv_sub hl [1, 2, 3, 4, 5] rfl)
    · replace h := ho_in hc h
      refine lv_aload_n hx hb dX2_mark_23 rfl (lv_at hl 1 rfl) ?_
      obtain ⟨r4, q, h⟩ := ho_bd h
      refine hw_gr X hP LX2 fX2_9 rfl q dX2_mark_24 ?_
      refine lv_iload hx hb dX2_mark_27 (lv_at hl 0 rfl) ?_
      refine lv_dup2_11 hx hb dX2_mark_29 rfl rfl ?_
      obtain ⟨v5, q, h⟩ := ho_bd h
      refine hw_li X hP q dX2_mark_30 ?_
      refine lv_iconst (v := 1) hx hb dX2_mark_31 (by decide) ?_
      refine lv_iload_n hx hb dX2_mark_32 rfl (lv_at hl 4 rfl) ?_
      refine lv_iconst (v := 5) hx hb dX2_mark_33 (by decide) ?_
      refine lv_imul hx hb dX2_mark_34 ?_
      refine lv_iload hx hb dX2_mark_35 (lv_at hl 5 rfl) ?_
      refine lv_iadd hx hb dX2_mark_37 ?_
      refine lv_ishl hx hb dX2_mark_38 ?_
      refine lv_ior hx hb dX2_mark_39 ?_
      obtain ⟨z, q, h⟩ := ho_bd h
      refine hw_si X hP hS q dX2_mark_40 (fun H locs hP hS => ?_)
      exact B41 z _ _ _ h hP hS (lv_sub hl [1, 2, 3, 4, 5] rfl)
def f_X3_between_B31 (fu : Nat) (a0 : Nat) (x1 : Int32) (x2 : Int32) (x3 : Int32) (x4 : Int32) (z : hp_S) : Option hp_S :=
  some z
def f_X3_between (fu : Nat) (a0 : Nat) (x1 : Int32) (x2 : Int32) (x3 : Int32) (x4 : Int32) (z : hp_S) : Option hp_S :=
  if x4 = 0 then (
    f_X3_between_B31 fu a0 x1 x2 x3 x4  z
  ) else (
    (ho_gi 3 a0 5 z).bind fun v1 =>
    if ((v1 >>> (x1 &&& 31)) &&& 1) = 1 then (
      (ho_gr 3 a0 0 z).bind fun r2 =>
      (ho_gi 3 a0 3 z).bind fun v3 =>
      (ho_is 2 r2 z).bind fun _ =>
      (f_X2_mark fu r2 v3 x1 x2 x3 z).bind fun z =>
      f_X3_between_B31 fu a0 x1 x2 x3 x4  z
    ) else (
      f_X3_between_B31 fu a0 x1 x2 x3 x4  z
    )
  )
set_option maxHeartbeats 4000000 in
set_option maxRecDepth 100000 in
theorem c_X3_between (l : Launch) (G : hp_G) (fu : Nat) (a0 : Nat) (x1 : Int32) (x2 : Int32) (x3 : Int32) (x4 : Int32) (z zq : hp_S) (h : f_X3_between fu a0 x1 x2 x3 x4 z = some zq) : hp_M l G yX3_between cX3_between 5 none 1 25 0 0 [.ref a0, .int x1, .int x2, .int x3, .int x4] z (hp_Qv G zq) := by
  refine hp_M.of (by decide) (Nat.le_of_ble_eq_true rfl) ?_
  intro p e s m below meth c X hr hlocks hnm hP hS ls hl
  have X : hp_C G cX3_between RX3 5 p s m c := X
  have hl : lv_has ls 5 [(0, .ref a0), (1, .int x1), (2, .int x2), (3, .int x3), (4, .int x4)] := hl
  have hx := X.1
  have hb := X.2.1
  have B31 : ∀ (z : hp_S) (H : Heap) (locs : List Loc) (ls : Array Slot), f_X3_between_B31 fu a0 x1 x2 x3 x4 z = some zq → hp_P G z H → va_S (hp_A G) s.heap H locs → lv_has ls 5 [(0, .ref a0), (1, .int x1), (2, .int x2), (3, .int x3), (4, .int x4)] → W p l e (hp_rm 1 25 0 0) s m [.ref a0, .int x1, .int x2, .int x3, .int x4].toArray below meth c H locs 0 0 (MQ below (hp_Qv G zq) [.ref a0, .int x1, .int x2, .int x3, .int x4].toArray s 0 0 (hp_A G)) (F0 m 31 ls []) := by
    intro z H locs ls h hP hS hl
    unfold f_X3_between_B31 at h
    exact hw_vret X hP hS hr hlocks h dX3_between_31
  unfold f_X3_between at h
  refine lv_iload hx hb dX3_between_0 (lv_at hl 4 rfl) ?_
  refine lv_if_eq (tgt := 31) hx hb dX3_between_2 (by decide) (fun hc => ?_) (fun hc => ?_)
  · replace h := ho_ip hc h
    exact B31 z _ _ _ h hP hS (lv_sub hl [0, 1, 2, 3, 4] rfl)
  · replace h := ho_in hc h
    refine lv_aload_n hx hb dX3_between_5 rfl (lv_at hl 0 rfl) ?_
    obtain ⟨v1, q, h⟩ := ho_bd h
    refine hw_gi X hP LX3 fX3_28 rfl q dX3_between_6 ?_
    refine lv_iload_n hx hb dX3_between_9 rfl (lv_at hl 1 rfl) ?_
    refine lv_ishr hx hb dX3_between_10 ?_
    refine lv_iconst (v := 1) hx hb dX3_between_11 (by decide) ?_
    refine lv_iand hx hb dX3_between_12 ?_
    refine lv_iconst (v := 1) hx hb dX3_between_13 (by decide) ?_
    refine lv_icmp_ne (tgt := 31) hx hb dX3_between_14 (by decide) (fun hc => ?_) (fun hc => ?_)
    · replace h := ho_in hc h
      exact B31 z _ _ _ h hP hS (lv_sub hl [0, 1, 2, 3, 4] rfl)
    · replace h := ho_ip hc h
      refine lv_aload_n hx hb dX3_between_17 rfl (lv_at hl 0 rfl) ?_
      obtain ⟨r2, q, h⟩ := ho_bd h
      refine hw_gr X hP LX3 fX3_12 rfl q dX3_between_18 ?_
      refine lv_aload_n hx hb dX3_between_21 rfl (lv_at hl 0 rfl) ?_
      obtain ⟨v3, q, h⟩ := ho_bd h
      refine hw_gi X hP LX3 fX3_76 rfl q dX3_between_22 ?_
      refine lv_iload_n hx hb dX3_between_25 rfl (lv_at hl 1 rfl) ?_
      refine lv_iload_n hx hb dX3_between_26 rfl (lv_at hl 2 rfl) ?_
      refine lv_iload_n hx hb dX3_between_27 rfl (lv_at hl 3 rfl) ?_
      obtain ⟨_, hs, h⟩ := ho_bd h
      obtain ⟨z, q, h⟩ := ho_bd h
      refine hw_cv hS (hp_runV (As := [.int v3, .int x1, .int x2, .int x3]) (rest := []) X hP hS hl.1 LX2 (ho_is_s hs) kX3_181 ⟨m2_190, m2_191⟩ (c_X2_mark l G fu r2 v3 x1 x2 x3 _ _ q) rfl (Nat.le_of_ble_eq_true rfl) ⟨⟨Nat.le_of_ble_eq_true rfl, Nat.le_of_ble_eq_true rfl⟩, Nat.le_of_ble_eq_true rfl, Nat.le_of_ble_eq_true rfl⟩ dX3_between_28) (fun H locs hP hS => ?_)
      exact B31 z _ _ _ h hP hS (lv_sub hl [0, 1, 2, 3, 4] rfl)
def f_X3_alone (fu : Nat) (a0 : Nat) (x1 : Int32) (x2 : Int32) (x3 : Int32) (z : hp_S) : Option hp_S :=
  (ho_is 3 a0 z).bind fun _ =>
  (f_X3_between fu a0 x1 x2 x2 x3 z).bind fun z =>
  some z
set_option maxHeartbeats 4000000 in
set_option maxRecDepth 100000 in
theorem c_X3_alone (l : Launch) (G : hp_G) (fu : Nat) (a0 : Nat) (x1 : Int32) (x2 : Int32) (x3 : Int32) (z zq : hp_S) (h : f_X3_alone fu a0 x1 x2 x3 z = some zq) : hp_M l G yX3_alone cX3_alone 4 none 2 49 0 0 [.ref a0, .int x1, .int x2, .int x3] z (hp_Qv G zq) := by
  refine hp_M.of (by decide) (Nat.le_of_ble_eq_true rfl) ?_
  intro p e s m below meth c X hr hlocks hnm hP hS ls hl
  have X : hp_C G cX3_alone RX3 4 p s m c := X
  have hl : lv_has ls 4 [(0, .ref a0), (1, .int x1), (2, .int x2), (3, .int x3)] := hl
  have hx := X.1
  have hb := X.2.1
  unfold f_X3_alone at h
  refine lv_aload_n hx hb dX3_alone_0 rfl (lv_at hl 0 rfl) ?_
  refine lv_iload_n hx hb dX3_alone_1 rfl (lv_at hl 1 rfl) ?_
  refine lv_iload_n hx hb dX3_alone_2 rfl (lv_at hl 2 rfl) ?_
  refine lv_iload_n hx hb dX3_alone_3 rfl (lv_at hl 2 rfl) ?_
  refine lv_iload_n hx hb dX3_alone_4 rfl (lv_at hl 3 rfl) ?_
  obtain ⟨_, hs, h⟩ := ho_bd h
  obtain ⟨z, q, h⟩ := ho_bd h
  refine hw_cv hS (hp_runV (As := [.int x1, .int x2, .int x2, .int x3]) (rest := []) X hP hS hl.1 LX3 (ho_is_s hs) kX3_123 ⟨m2_187, mp_10⟩ (c_X3_between l G fu a0 x1 x2 x2 x3 _ _ q) rfl (Nat.le_of_ble_eq_true rfl) ⟨⟨Nat.le_of_ble_eq_true rfl, Nat.le_of_ble_eq_true rfl⟩, Nat.le_of_ble_eq_true rfl, Nat.le_of_ble_eq_true rfl⟩ dX3_alone_5) (fun H locs hP hS => ?_)
  exact hw_vret X hP hS hr hlocks h dX3_alone_8
def f_X0_heightUp (fu : Nat) (a0 : Nat) (x1 : Int32) (x2 : Int32) (z : hp_S) : Option (Int32 × hp_S) :=
  (ho_gr 0 a0 3 z).bind fun r1 =>
  (ho_li 1 r1 x2 z).bind fun v2 =>
  (ho_gr 0 a0 3 z).bind fun r3 =>
  (ho_li 1 r3 x1 z).bind fun v4 =>
  some ((v2 - v4), z)
set_option maxHeartbeats 4000000 in
set_option maxRecDepth 100000 in
theorem c_X0_heightUp (l : Launch) (G : hp_G) (fu : Nat) (a0 : Nat) (x1 : Int32) (x2 : Int32) (z : hp_S) (rq : Int32) (zq : hp_S) (h : f_X0_heightUp fu a0 x1 x2 z = some (rq, zq)) : hp_M l G yX0_heightUp cX0_heightUp 3 (some .int) 0 0 0 0 [.ref a0, .int x1, .int x2] z (hp_Qi G rq zq) := by
  refine hp_M.of (by decide) (Nat.le_of_ble_eq_true rfl) ?_
  intro p e s m below meth c X hr hlocks hnm hP hS ls hl
  have X : hp_C G cX0_heightUp RX0 3 p s m c := X
  have hl : lv_has ls 3 [(0, .ref a0), (1, .int x1), (2, .int x2)] := hl
  have hx := X.1
  have hb := X.2.1
  unfold f_X0_heightUp at h
  refine lv_aload_n hx hb dX0_heightUp_0 rfl (lv_at hl 0 rfl) ?_
  obtain ⟨r1, q, h⟩ := ho_bd h
  refine hw_gr X hP LX0 fX0_22 rfl q dX0_heightUp_1 ?_
  refine lv_iload_n hx hb dX0_heightUp_4 rfl (lv_at hl 2 rfl) ?_
  obtain ⟨v2, q, h⟩ := ho_bd h
  refine hw_li X hP q dX0_heightUp_5 ?_
  refine lv_aload_n hx hb dX0_heightUp_6 rfl (lv_at hl 0 rfl) ?_
  obtain ⟨r3, q, h⟩ := ho_bd h
  refine hw_gr X hP LX0 fX0_22 rfl q dX0_heightUp_7 ?_
  refine lv_iload_n hx hb dX0_heightUp_10 rfl (lv_at hl 1 rfl) ?_
  obtain ⟨v4, q, h⟩ := ho_bd h
  refine hw_li X hP q dX0_heightUp_11 ?_
  refine lv_isub hx hb dX0_heightUp_12 ?_
  exact hw_iret X hP hS hr hlocks h dX0_heightUp_13
def f_X0_letter (fu : Nat) (a0 : Nat) (x1 : Int32) (z : hp_S) : Option (Int32 × hp_S) :=
  (ho_gr 0 a0 1 z).bind fun r1 =>
  (ho_li 1 r1 x1 z).bind fun v2 =>
  (ho_rm v2 7).bind fun v3 =>
  some (v3, z)
set_option maxHeartbeats 4000000 in
set_option maxRecDepth 100000 in
theorem c_X0_letter (l : Launch) (G : hp_G) (fu : Nat) (a0 : Nat) (x1 : Int32) (z : hp_S) (rq : Int32) (zq : hp_S) (h : f_X0_letter fu a0 x1 z = some (rq, zq)) : hp_M l G yX0_letter cX0_letter 2 (some .int) 0 0 0 0 [.ref a0, .int x1] z (hp_Qi G rq zq) := by
  refine hp_M.of (by decide) (Nat.le_of_ble_eq_true rfl) ?_
  intro p e s m below meth c X hr hlocks hnm hP hS ls hl
  have X : hp_C G cX0_letter RX0 2 p s m c := X
  have hl : lv_has ls 2 [(0, .ref a0), (1, .int x1)] := hl
  have hx := X.1
  have hb := X.2.1
  unfold f_X0_letter at h
  refine lv_aload_n hx hb dX0_letter_0 rfl (lv_at hl 0 rfl) ?_
  obtain ⟨r1, q, h⟩ := ho_bd h
  refine hw_gr X hP LX0 fX0_15 rfl q dX0_letter_1 ?_
  refine lv_iload_n hx hb dX0_letter_4 rfl (lv_at hl 1 rfl) ?_
  obtain ⟨v2, q, h⟩ := ho_bd h
  refine hw_li X hP q dX0_letter_5 ?_
  refine lv_bipush (v := 7) hx hb dX0_letter_6 (by decide) ?_
  obtain ⟨v3, q, h⟩ := ho_bd h
  refine hw_rm X q dX0_letter_8 ?_
  exact hw_iret X hP hS hr hlocks h dX0_letter_9
def f_X0_isNoteOf_B33 (fu : Nat) (a0 : Nat) (x1 : Int32) (x2 : Int32) (x3 : Int32) (s0 : Int32) (z : hp_S) : Option (Int32 × hp_S) :=
  if vp_nar .boolean s0 = s0 then some (s0, z) else none
def f_X0_isNoteOf_B32 (fu : Nat) (a0 : Nat) (x1 : Int32) (x2 : Int32) (x3 : Int32) (z : hp_S) : Option (Int32 × hp_S) :=
  f_X0_isNoteOf_B33 fu a0 x1 x2 x3 0 z
def f_X0_isNoteOf (fu : Nat) (a0 : Nat) (x1 : Int32) (x2 : Int32) (x3 : Int32) (z : hp_S) : Option (Int32 × hp_S) :=
  (ho_gr 0 a0 0 z).bind fun r1 =>
  (ho_li 2 r1 x1 z).bind fun v2 =>
  if v2 = 0 then (
    f_X0_isNoteOf_B32 fu a0 x1 x2 x3  z
  ) else (
    (ho_is 0 a0 z).bind fun _ =>
    (f_X0_letter fu a0 x1 z).bind fun ⟨v3, z⟩ =>
    if v3 = x2 then (
      (ho_gr 0 a0 2 z).bind fun r4 =>
      (ho_li 1 r4 x1 z).bind fun v5 =>
      if v5 = x3 then (
        f_X0_isNoteOf_B33 fu a0 x1 x2 x3 1 z
      ) else (
        f_X0_isNoteOf_B32 fu a0 x1 x2 x3  z
      )
    ) else (
      f_X0_isNoteOf_B32 fu a0 x1 x2 x3  z
    )
  )
set_option maxHeartbeats 4000000 in
set_option maxRecDepth 100000 in
theorem c_X0_isNoteOf (l : Launch) (G : hp_G) (fu : Nat) (a0 : Nat) (x1 : Int32) (x2 : Int32) (x3 : Int32) (z : hp_S) (rq : Int32) (zq : hp_S) (h : f_X0_isNoteOf fu a0 x1 x2 x3 z = some (rq, zq)) : hp_M l G yX0_isNoteOf cX0_isNoteOf 4 (some .boolean) 1 21 0 0 [.ref a0, .int x1, .int x2, .int x3] z (hp_Qi G rq zq) := by
  refine hp_M.of (by decide) (Nat.le_of_ble_eq_true rfl) ?_
  intro p e s m below meth c X hr hlocks hnm hP hS ls hl
  have X : hp_C G cX0_isNoteOf RX0 4 p s m c := X
  have hl : lv_has ls 4 [(0, .ref a0), (1, .int x1), (2, .int x2), (3, .int x3)] := hl
  have hx := X.1
  have hb := X.2.1
  have B33 : ∀ (s0 : Int32) (z : hp_S) (H : Heap) (locs : List Loc) (ls : Array Slot), f_X0_isNoteOf_B33 fu a0 x1 x2 x3 s0 z = some (rq, zq) → hp_P G z H → va_S (hp_A G) s.heap H locs → lv_has ls 4 [(0, .ref a0), (1, .int x1), (2, .int x2), (3, .int x3)] → W p l e (hp_rm 1 21 0 0) s m [.ref a0, .int x1, .int x2, .int x3].toArray below meth c H locs 0 0 (MQ below (hp_Qi G rq zq) [.ref a0, .int x1, .int x2, .int x3].toArray s 0 0 (hp_A G)) (F0 m 33 ls [.int s0]) := by
    intro s0 z H locs ls h hP hS hl
    unfold f_X0_isNoteOf_B33 at h
    exact hw_zret X hP hS hr hlocks h dX0_isNoteOf_33
  have B32 : ∀ (z : hp_S) (H : Heap) (locs : List Loc) (ls : Array Slot), f_X0_isNoteOf_B32 fu a0 x1 x2 x3 z = some (rq, zq) → hp_P G z H → va_S (hp_A G) s.heap H locs → lv_has ls 4 [(0, .ref a0), (1, .int x1), (2, .int x2), (3, .int x3)] → W p l e (hp_rm 1 21 0 0) s m [.ref a0, .int x1, .int x2, .int x3].toArray below meth c H locs 0 0 (MQ below (hp_Qi G rq zq) [.ref a0, .int x1, .int x2, .int x3].toArray s 0 0 (hp_A G)) (F0 m 32 ls []) := by
    intro z H locs ls h hP hS hl
    unfold f_X0_isNoteOf_B32 at h
    refine lv_iconst (v := 0) hx hb dX0_isNoteOf_32 (by decide) ?_
    exact B33 0 z _ _ _ h hP hS (lv_sub hl [0, 1, 2, 3] rfl)
  unfold f_X0_isNoteOf at h
  refine lv_aload_n hx hb dX0_isNoteOf_0 rfl (lv_at hl 0 rfl) ?_
  obtain ⟨r1, q, h⟩ := ho_bd h
  refine hw_gr X hP LX0 fX0_9 rfl q dX0_isNoteOf_1 ?_
  refine lv_iload_n hx hb dX0_isNoteOf_4 rfl (lv_at hl 1 rfl) ?_
  obtain ⟨v2, q, h⟩ := ho_bd h
  refine hw_lz X hP q dX0_isNoteOf_5 ?_
  refine lv_if_eq (tgt := 32) hx hb dX0_isNoteOf_6 (by decide) (fun hc => ?_) (fun hc => ?_)
  · replace h := ho_ip hc h
    exact B32 z _ _ _ h hP hS (lv_sub hl [0, 1, 2, 3] rfl)
  · replace h := ho_in hc h
    refine lv_aload_n hx hb dX0_isNoteOf_9 rfl (lv_at hl 0 rfl) ?_
    refine lv_iload_n hx hb dX0_isNoteOf_10 rfl (lv_at hl 1 rfl) ?_
    obtain ⟨_, hs, h⟩ := ho_bd h
    obtain ⟨⟨v3, z⟩, q, h⟩ := ho_bd h
    refine hw_ci hS (hp_runV (As := [.int x1]) (rest := []) X hP hS hl.1 LX0 (ho_is_s hs) kX0_40 ⟨m2_210, m2_211⟩ (c_X0_letter l G fu a0 x1 _ _ _ q) rfl (Nat.le_of_ble_eq_true rfl) ⟨⟨Nat.le_of_ble_eq_true rfl, Nat.le_of_ble_eq_true rfl⟩, Nat.le_of_ble_eq_true rfl, Nat.le_of_ble_eq_true rfl⟩ dX0_isNoteOf_11) (fun H locs hP hS => ?_)
    refine lv_iload_n hx hb dX0_isNoteOf_14 rfl (lv_at hl 2 rfl) ?_
    refine lv_icmp_ne (tgt := 32) hx hb dX0_isNoteOf_15 (by decide) (fun hc => ?_) (fun hc => ?_)
    · replace h := ho_in hc h
      exact B32 z _ _ _ h hP hS (lv_sub hl [0, 1, 2, 3] rfl)
    · replace h := ho_ip hc h
      refine lv_aload_n hx hb dX0_isNoteOf_18 rfl (lv_at hl 0 rfl) ?_
      obtain ⟨r4, q, h⟩ := ho_bd h
      refine hw_gr X hP LX0 fX0_19 rfl q dX0_isNoteOf_19 ?_
      refine lv_iload_n hx hb dX0_isNoteOf_22 rfl (lv_at hl 1 rfl) ?_
      obtain ⟨v5, q, h⟩ := ho_bd h
      refine hw_li X hP q dX0_isNoteOf_23 ?_
      refine lv_iload_n hx hb dX0_isNoteOf_24 rfl (lv_at hl 3 rfl) ?_
      refine lv_icmp_ne (tgt := 32) hx hb dX0_isNoteOf_25 (by decide) (fun hc => ?_) (fun hc => ?_)
      · replace h := ho_in hc h
        exact B32 z _ _ _ h hP hS (lv_sub hl [0, 1, 2, 3] rfl)
      · replace h := ho_ip hc h
        refine lv_iconst (v := 1) hx hb dX0_isNoteOf_28 (by decide) ?_
        refine lv_goto (tgt := 33) hx hb dX0_isNoteOf_29 (by decide) ?_
        exact B33 1 z _ _ _ h hP hS (lv_sub hl [0, 1, 2, 3] rfl)
def f_X3_leads (fu : Nat) (a0 : Nat) (a1 : Nat) (x2 : Int32) (z : hp_S) : Option (Int32 × hp_S) :=
  (ho_gi 3 a0 6 z).bind fun v1 =>
  (ho_gi 3 a0 7 z).bind fun v2 =>
  (ho_is 0 a1 z).bind fun _ =>
  (f_X0_isNoteOf fu a1 x2 v1 v2 z).bind fun ⟨v3, z⟩ =>
  if vp_nar .boolean v3 = v3 then some (v3, z) else none
set_option maxHeartbeats 4000000 in
set_option maxRecDepth 100000 in
theorem c_X3_leads (l : Launch) (G : hp_G) (fu : Nat) (a0 : Nat) (a1 : Nat) (x2 : Int32) (z : hp_S) (rq : Int32) (zq : hp_S) (h : f_X3_leads fu a0 a1 x2 z = some (rq, zq)) : hp_M l G yX3_leads cX3_leads 3 (some .boolean) 2 44 0 0 [.ref a0, .ref a1, .int x2] z (hp_Qi G rq zq) := by
  refine hp_M.of (by decide) (Nat.le_of_ble_eq_true rfl) ?_
  intro p e s m below meth c X hr hlocks hnm hP hS ls hl
  have X : hp_C G cX3_leads RX3 3 p s m c := X
  have hl : lv_has ls 3 [(0, .ref a0), (1, .ref a1), (2, .int x2)] := hl
  have hx := X.1
  have hb := X.2.1
  unfold f_X3_leads at h
  refine lv_aload_n hx hb dX3_leads_0 rfl (lv_at hl 1 rfl) ?_
  refine lv_iload_n hx hb dX3_leads_1 rfl (lv_at hl 2 rfl) ?_
  refine lv_aload_n hx hb dX3_leads_2 rfl (lv_at hl 0 rfl) ?_
  obtain ⟨v1, q, h⟩ := ho_bd h
  refine hw_gi X hP LX3 fX3_38 rfl q dX3_leads_3 ?_
  refine lv_aload_n hx hb dX3_leads_6 rfl (lv_at hl 0 rfl) ?_
  obtain ⟨v2, q, h⟩ := ho_bd h
  refine hw_gi X hP LX3 fX3_44 rfl q dX3_leads_7 ?_
  obtain ⟨_, hs, h⟩ := ho_bd h
  obtain ⟨⟨v3, z⟩, q, h⟩ := ho_bd h
  refine hw_ci hS (hp_runV (As := [.int x2, .int v1, .int v2]) (rest := []) X hP hS hl.1 LX0 (ho_is_s hs) kX3_172 ⟨m2_206, m2_207⟩ (c_X0_isNoteOf l G fu a1 x2 v1 v2 _ _ _ q) rfl (Nat.le_of_ble_eq_true rfl) ⟨⟨Nat.le_of_ble_eq_true rfl, Nat.le_of_ble_eq_true rfl⟩, Nat.le_of_ble_eq_true rfl, Nat.le_of_ble_eq_true rfl⟩ dX3_leads_10) (fun H locs hP hS => ?_)
  exact hw_zret X hP hS hr hlocks h dX3_leads_13
def f_X3_lookAtInterval_B114 (fu : Nat) (a0 : Nat) (x1 : Int32) (x2 : Int32) (z : hp_S) : Option hp_S :=
  some z
def f_X3_lookAtInterval_B111 (fu : Nat) (a0 : Nat) (x1 : Int32) (x2 : Int32) (s0 : Int32) (s1 : Int32) (s2 : Int32) (s3 : Int32) (s4 : Nat) (z : hp_S) : Option hp_S :=
  (ho_is 3 s4 z).bind fun _ =>
  (f_X3_between fu s4 s3 s2 s1 s0 z).bind fun z =>
  f_X3_lookAtInterval_B114 fu a0 x1 x2  z
def f_X3_lookAtInterval_B94 (fu : Nat) (a0 : Nat) (x1 : Int32) (x2 : Int32) (w3 : Int32) (s0 : Int32) (s1 : Int32) (s2 : Int32) (s3 : Int32) (s4 : Nat) (z : hp_S) : Option hp_S :=
  (ho_is 3 s4 z).bind fun _ =>
  (f_X3_between fu s4 s3 s2 s1 s0 z).bind fun z =>
  if w3 = 0 then (
    f_X3_lookAtInterval_B111 fu a0 x1 x2 1 x2 x1 13 a0 z
  ) else (
    f_X3_lookAtInterval_B111 fu a0 x1 x2 0 x2 x1 13 a0 z
  )
def f_X3_lookAtInterval_B86 (fu : Nat) (a0 : Nat) (x1 : Int32) (x2 : Int32) (w3 : Int32) (s0 : Int32) (s1 : Int32) (s2 : Int32) (s3 : Int32) (s4 : Int32) (s5 : Nat) (z : hp_S) : Option hp_S :=
  if s1 ≤ s0 then (
    f_X3_lookAtInterval_B94 fu a0 x1 x2 w3 0 s2 s3 s4 s5 z
  ) else (
    f_X3_lookAtInterval_B94 fu a0 x1 x2 w3 1 s2 s3 s4 s5 z
  )
def f_X3_lookAtInterval_B60 (fu : Nat) (a0 : Nat) (x1 : Int32) (x2 : Int32) (w3 : Int32) (s0 : Int32) (s1 : Int32) (s2 : Int32) (s3 : Int32) (s4 : Nat) (z : hp_S) : Option hp_S :=
  (ho_is 3 s4 z).bind fun _ =>
  (f_X3_between fu s4 s3 s2 s1 s0 z).bind fun z =>
  if x2 = (x1 + 1) then (
    if x1 = 0 then (
      f_X3_lookAtInterval_B86 fu a0 x1 x2 w3 19 w3 x2 x1 5 a0 z
    ) else (
      f_X3_lookAtInterval_B86 fu a0 x1 x2 w3 12 w3 x2 x1 5 a0 z
    )
  ) else (
    f_X3_lookAtInterval_B114 fu a0 x1 x2  z
  )
def f_X3_lookAtInterval_B59 (fu : Nat) (a0 : Nat) (x1 : Int32) (x2 : Int32) (w3 : Int32) (s0 : Int32) (s1 : Int32) (s2 : Int32) (s3 : Nat) (z : hp_S) : Option hp_S :=
  f_X3_lookAtInterval_B60 fu a0 x1 x2 w3 0 s0 s1 s2 s3 z
def f_X3_lookAtInterval_B23 (fu : Nat) (a0 : Nat) (x1 : Int32) (x2 : Int32) (w3 : Int32) (s0 : Int32) (s1 : Int32) (s2 : Int32) (s3 : Int32) (s4 : Nat) (z : hp_S) : Option hp_S :=
  (ho_is 3 s4 z).bind fun _ =>
  (f_X3_between fu s4 s3 s2 s1 s0 z).bind fun z =>
  (ho_gr 3 a0 2 z).bind fun r3 =>
  (ho_is 3 a0 z).bind fun _ =>
  (f_X3_leads fu a0 r3 x1 z).bind fun ⟨v4, z⟩ =>
  if v4 = 0 then (
    f_X3_lookAtInterval_B59 fu a0 x1 x2 w3 x2 x1 9 a0 z
  ) else (
    (ho_gr 3 a0 2 z).bind fun r5 =>
    (ho_is 3 a0 z).bind fun _ =>
    (f_X3_leads fu a0 r5 x2 z).bind fun ⟨v6, z⟩ =>
    if v6 = 0 then (
      f_X3_lookAtInterval_B59 fu a0 x1 x2 w3 x2 x1 9 a0 z
    ) else (
      f_X3_lookAtInterval_B60 fu a0 x1 x2 w3 1 x2 x1 9 a0 z
    )
  )
def f_X3_lookAtInterval (fu : Nat) (a0 : Nat) (x1 : Int32) (x2 : Int32) (z : hp_S) : Option hp_S :=
  (ho_gr 3 a0 2 z).bind fun r1 =>
  (ho_is 0 r1 z).bind fun _ =>
  (f_X0_heightUp fu r1 x1 x2 z).bind fun ⟨v2, z⟩ =>
  if 0 ≤ v2 then (
    f_X3_lookAtInterval_B23 fu a0 x1 x2 v2 0 x2 x1 3 a0 z
  ) else (
    f_X3_lookAtInterval_B23 fu a0 x1 x2 v2 1 x2 x1 3 a0 z
  )
set_option maxHeartbeats 4000000 in
set_option maxRecDepth 100000 in
theorem c_X3_lookAtInterval (l : Launch) (G : hp_G) (fu : Nat) (a0 : Nat) (x1 : Int32) (x2 : Int32) (z zq : hp_S) (h : f_X3_lookAtInterval fu a0 x1 x2 z = some zq) : hp_M l G yX3_lookAtInterval cX3_lookAtInterval 4 none 3 66 0 0 [.ref a0, .int x1, .int x2] z (hp_Qv G zq) := by
  refine hp_M.of (by decide) (Nat.le_of_ble_eq_true rfl) ?_
  intro p e s m below meth c X hr hlocks hnm hP hS ls hl
  have X : hp_C G cX3_lookAtInterval RX3 4 p s m c := X
  have hl : lv_has ls 4 [(0, .ref a0), (1, .int x1), (2, .int x2)] := hl
  have hx := X.1
  have hb := X.2.1
  have B114 : ∀ (z : hp_S) (H : Heap) (locs : List Loc) (ls : Array Slot), f_X3_lookAtInterval_B114 fu a0 x1 x2 z = some zq → hp_P G z H → va_S (hp_A G) s.heap H locs → lv_has ls 4 [(0, .ref a0), (1, .int x1), (2, .int x2)] → W p l e (hp_rm 3 66 0 0) s m [.ref a0, .int x1, .int x2].toArray below meth c H locs 0 0 (MQ below (hp_Qv G zq) [.ref a0, .int x1, .int x2].toArray s 0 0 (hp_A G)) (F0 m 114 ls []) := by
    intro z H locs ls h hP hS hl
    unfold f_X3_lookAtInterval_B114 at h
    exact hw_vret X hP hS hr hlocks h dX3_lookAtInterval_114
  have B111 : ∀ (s0 : Int32) (s1 : Int32) (s2 : Int32) (s3 : Int32) (s4 : Nat) (z : hp_S) (H : Heap) (locs : List Loc) (ls : Array Slot), f_X3_lookAtInterval_B111 fu a0 x1 x2 s0 s1 s2 s3 s4 z = some zq → hp_P G z H → va_S (hp_A G) s.heap H locs → lv_has ls 4 [(0, .ref a0), (1, .int x1), (2, .int x2)] → W p l e (hp_rm 3 66 0 0) s m [.ref a0, .int x1, .int x2].toArray below meth c H locs 0 0 (MQ below (hp_Qv G zq) [.ref a0, .int x1, .int x2].toArray s 0 0 (hp_A G)) (F0 m 111 ls [.int s0, .int s1, .int s2, .int s3, .ref s4]) := by
    intro s0 s1 s2 s3 s4 z H locs ls h hP hS hl
    unfold f_X3_lookAtInterval_B111 at h
    obtain ⟨_, hs, h⟩ := ho_bd h
    obtain ⟨z, q, h⟩ := ho_bd h
    refine hw_cv hS (hp_runV (As := [.int s3, .int s2, .int s1, .int s0]) (rest := []) X hP hS hl.1 LX3 (ho_is_s hs) kX3_123 ⟨m2_187, mp_10⟩ (c_X3_between l G fu s4 s3 s2 s1 s0 _ _ q) rfl (Nat.le_of_ble_eq_true rfl) ⟨⟨Nat.le_of_ble_eq_true rfl, Nat.le_of_ble_eq_true rfl⟩, Nat.le_of_ble_eq_true rfl, Nat.le_of_ble_eq_true rfl⟩ dX3_lookAtInterval_111) (fun H locs hP hS => ?_)
    exact B114 z _ _ _ h hP hS (lv_sub hl [0, 1, 2] rfl)
  have B94 : ∀ (w3 : Int32) (s0 : Int32) (s1 : Int32) (s2 : Int32) (s3 : Int32) (s4 : Nat) (z : hp_S) (H : Heap) (locs : List Loc) (ls : Array Slot), f_X3_lookAtInterval_B94 fu a0 x1 x2 w3 s0 s1 s2 s3 s4 z = some zq → hp_P G z H → va_S (hp_A G) s.heap H locs → lv_has ls 4 [(0, .ref a0), (1, .int x1), (2, .int x2), (3, .int w3)] → W p l e (hp_rm 3 66 0 0) s m [.ref a0, .int x1, .int x2].toArray below meth c H locs 0 0 (MQ below (hp_Qv G zq) [.ref a0, .int x1, .int x2].toArray s 0 0 (hp_A G)) (F0 m 94 ls [.int s0, .int s1, .int s2, .int s3, .ref s4]) := by
    intro w3 s0 s1 s2 s3 s4 z H locs ls h hP hS hl
    unfold f_X3_lookAtInterval_B94 at h
    obtain ⟨_, hs, h⟩ := ho_bd h
    obtain ⟨z, q, h⟩ := ho_bd h
    refine hw_cv hS (hp_runV (As := [.int s3, .int s2, .int s1, .int s0]) (rest := []) X hP hS hl.1 LX3 (ho_is_s hs) kX3_123 ⟨m2_187, mp_10⟩ (c_X3_between l G fu s4 s3 s2 s1 s0 _ _ q) rfl (Nat.le_of_ble_eq_true rfl) ⟨⟨Nat.le_of_ble_eq_true rfl, Nat.le_of_ble_eq_true rfl⟩, Nat.le_of_ble_eq_true rfl, Nat.le_of_ble_eq_true rfl⟩ dX3_lookAtInterval_94) (fun H locs hP hS => ?_)
    refine lv_aload_n hx hb dX3_lookAtInterval_97 rfl (lv_at hl 0 rfl) ?_
    refine lv_bipush (v := 13) hx hb dX3_lookAtInterval_98 (by decide) ?_
    refine lv_iload_n hx hb dX3_lookAtInterval_100 rfl (lv_at hl 1 rfl) ?_
    refine lv_iload_n hx hb dX3_lookAtInterval_101 rfl (lv_at hl 2 rfl) ?_
    refine lv_iload_n hx hb dX3_lookAtInterval_102 rfl (lv_at hl 3 rfl) ?_
    refine lv_if_ne (tgt := 110) hx hb dX3_lookAtInterval_103 (by decide) (fun hc => ?_) (fun hc => ?_)
    · replace h := ho_in hc h
      refine lv_iconst (v := 0) hx hb dX3_lookAtInterval_110 (by decide) ?_
      exact B111 0 x2 x1 13 a0 z _ _ _ h hP hS (lv_sub hl [0, 1, 2] rfl)
    · replace h := ho_ip hc h
      refine lv_iconst (v := 1) hx hb dX3_lookAtInterval_106 (by decide) ?_
      refine lv_goto (tgt := 111) hx hb dX3_lookAtInterval_107 (by decide) ?_
      exact B111 1 x2 x1 13 a0 z _ _ _ h hP hS (lv_sub hl [0, 1, 2] rfl)
  have B86 : ∀ (w3 : Int32) (s0 : Int32) (s1 : Int32) (s2 : Int32) (s3 : Int32) (s4 : Int32) (s5 : Nat) (z : hp_S) (H : Heap) (locs : List Loc) (ls : Array Slot), f_X3_lookAtInterval_B86 fu a0 x1 x2 w3 s0 s1 s2 s3 s4 s5 z = some zq → hp_P G z H → va_S (hp_A G) s.heap H locs → lv_has ls 4 [(0, .ref a0), (1, .int x1), (2, .int x2), (3, .int w3)] → W p l e (hp_rm 3 66 0 0) s m [.ref a0, .int x1, .int x2].toArray below meth c H locs 0 0 (MQ below (hp_Qv G zq) [.ref a0, .int x1, .int x2].toArray s 0 0 (hp_A G)) (F0 m 86 ls [.int s0, .int s1, .int s2, .int s3, .int s4, .ref s5]) := by
    intro w3 s0 s1 s2 s3 s4 s5 z H locs ls h hP hS hl
    unfold f_X3_lookAtInterval_B86 at h
    refine lv_icmp_le (tgt := 93) hx hb dX3_lookAtInterval_86 (by decide) (fun hc => ?_) (fun hc => ?_)
    · replace h := ho_ip hc h
      refine lv_iconst (v := 0) hx hb dX3_lookAtInterval_93 (by decide) ?_
      exact B94 w3 0 s2 s3 s4 s5 z _ _ _ h hP hS (lv_sub hl [0, 1, 2, 3] rfl)
    · replace h := ho_in hc h
      refine lv_iconst (v := 1) hx hb dX3_lookAtInterval_89 (by decide) ?_
      refine lv_goto (tgt := 94) hx hb dX3_lookAtInterval_90 (by decide) ?_
      exact B94 w3 1 s2 s3 s4 s5 z _ _ _ h hP hS (lv_sub hl [0, 1, 2, 3] rfl)
  have B60 : ∀ (w3 : Int32) (s0 : Int32) (s1 : Int32) (s2 : Int32) (s3 : Int32) (s4 : Nat) (z : hp_S) (H : Heap) (locs : List Loc) (ls : Array Slot), f_X3_lookAtInterval_B60 fu a0 x1 x2 w3 s0 s1 s2 s3 s4 z = some zq → hp_P G z H → va_S (hp_A G) s.heap H locs → lv_has ls 4 [(0, .ref a0), (1, .int x1), (2, .int x2), (3, .int w3)] → W p l e (hp_rm 3 66 0 0) s m [.ref a0, .int x1, .int x2].toArray below meth c H locs 0 0 (MQ below (hp_Qv G zq) [.ref a0, .int x1, .int x2].toArray s 0 0 (hp_A G)) (F0 m 60 ls [.int s0, .int s1, .int s2, .int s3, .ref s4]) := by
    intro w3 s0 s1 s2 s3 s4 z H locs ls h hP hS hl
    unfold f_X3_lookAtInterval_B60 at h
    obtain ⟨_, hs, h⟩ := ho_bd h
    obtain ⟨z, q, h⟩ := ho_bd h
    refine hw_cv hS (hp_runV (As := [.int s3, .int s2, .int s1, .int s0]) (rest := []) X hP hS hl.1 LX3 (ho_is_s hs) kX3_123 ⟨m2_187, mp_10⟩ (c_X3_between l G fu s4 s3 s2 s1 s0 _ _ q) rfl (Nat.le_of_ble_eq_true rfl) ⟨⟨Nat.le_of_ble_eq_true rfl, Nat.le_of_ble_eq_true rfl⟩, Nat.le_of_ble_eq_true rfl, Nat.le_of_ble_eq_true rfl⟩ dX3_lookAtInterval_60) (fun H locs hP hS => ?_)
    refine lv_iload_n hx hb dX3_lookAtInterval_63 rfl (lv_at hl 2 rfl) ?_
    refine lv_iload_n hx hb dX3_lookAtInterval_64 rfl (lv_at hl 1 rfl) ?_
    refine lv_iconst (v := 1) hx hb dX3_lookAtInterval_65 (by decide) ?_
    refine lv_iadd hx hb dX3_lookAtInterval_66 ?_
    refine lv_icmp_ne (tgt := 114) hx hb dX3_lookAtInterval_67 (by decide) (fun hc => ?_) (fun hc => ?_)
    · replace h := ho_in hc h
      exact B114 z _ _ _ h hP hS (lv_sub hl [0, 1, 2] rfl)
    · replace h := ho_ip hc h
      refine lv_aload_n hx hb dX3_lookAtInterval_70 rfl (lv_at hl 0 rfl) ?_
      refine lv_iconst (v := 5) hx hb dX3_lookAtInterval_71 (by decide) ?_
      refine lv_iload_n hx hb dX3_lookAtInterval_72 rfl (lv_at hl 1 rfl) ?_
      refine lv_iload_n hx hb dX3_lookAtInterval_73 rfl (lv_at hl 2 rfl) ?_
      refine lv_iload_n hx hb dX3_lookAtInterval_74 rfl (lv_at hl 3 rfl) ?_
      refine lv_iload_n hx hb dX3_lookAtInterval_75 rfl (lv_at hl 1 rfl) ?_
      refine lv_if_ne (tgt := 84) hx hb dX3_lookAtInterval_76 (by decide) (fun hc => ?_) (fun hc => ?_)
      · replace h := ho_in hc h
        refine lv_bipush (v := 12) hx hb dX3_lookAtInterval_84 (by decide) ?_
        exact B86 w3 12 w3 x2 x1 5 a0 z _ _ _ h hP hS (lv_sub hl [0, 1, 2, 3] rfl)
      · replace h := ho_ip hc h
        refine lv_bipush (v := 19) hx hb dX3_lookAtInterval_79 (by decide) ?_
        refine lv_goto (tgt := 86) hx hb dX3_lookAtInterval_81 (by decide) ?_
        exact B86 w3 19 w3 x2 x1 5 a0 z _ _ _ h hP hS (lv_sub hl [0, 1, 2, 3] rfl)
  have B59 : ∀ (w3 : Int32) (s0 : Int32) (s1 : Int32) (s2 : Int32) (s3 : Nat) (z : hp_S) (H : Heap) (locs : List Loc) (ls : Array Slot), f_X3_lookAtInterval_B59 fu a0 x1 x2 w3 s0 s1 s2 s3 z = some zq → hp_P G z H → va_S (hp_A G) s.heap H locs → lv_has ls 4 [(0, .ref a0), (1, .int x1), (2, .int x2), (3, .int w3)] → W p l e (hp_rm 3 66 0 0) s m [.ref a0, .int x1, .int x2].toArray below meth c H locs 0 0 (MQ below (hp_Qv G zq) [.ref a0, .int x1, .int x2].toArray s 0 0 (hp_A G)) (F0 m 59 ls [.int s0, .int s1, .int s2, .ref s3]) := by
    intro w3 s0 s1 s2 s3 z H locs ls h hP hS hl
    unfold f_X3_lookAtInterval_B59 at h
    refine lv_iconst (v := 0) hx hb dX3_lookAtInterval_59 (by decide) ?_
    exact B60 w3 0 s0 s1 s2 s3 z _ _ _ h hP hS (lv_sub hl [0, 1, 2, 3] rfl)
  have B23 : ∀ (w3 : Int32) (s0 : Int32) (s1 : Int32) (s2 : Int32) (s3 : Int32) (s4 : Nat) (z : hp_S) (H : Heap) (locs : List Loc) (ls : Array Slot), f_X3_lookAtInterval_B23 fu a0 x1 x2 w3 s0 s1 s2 s3 s4 z = some zq → hp_P G z H → va_S (hp_A G) s.heap H locs → lv_has ls 4 [(0, .ref a0), (1, .int x1), (2, .int x2), (3, .int w3)] → W p l e (hp_rm 3 66 0 0) s m [.ref a0, .int x1, .int x2].toArray below meth c H locs 0 0 (MQ below (hp_Qv G zq) [.ref a0, .int x1, .int x2].toArray s 0 0 (hp_A G)) (F0 m 23 ls [.int s0, .int s1, .int s2, .int s3, .ref s4]) := by
    intro w3 s0 s1 s2 s3 s4 z H locs ls h hP hS hl
    unfold f_X3_lookAtInterval_B23 at h
    obtain ⟨_, hs, h⟩ := ho_bd h
    obtain ⟨z, q, h⟩ := ho_bd h
    refine hw_cv hS (hp_runV (As := [.int s3, .int s2, .int s1, .int s0]) (rest := []) X hP hS hl.1 LX3 (ho_is_s hs) kX3_123 ⟨m2_187, mp_10⟩ (c_X3_between l G fu s4 s3 s2 s1 s0 _ _ q) rfl (Nat.le_of_ble_eq_true rfl) ⟨⟨Nat.le_of_ble_eq_true rfl, Nat.le_of_ble_eq_true rfl⟩, Nat.le_of_ble_eq_true rfl, Nat.le_of_ble_eq_true rfl⟩ dX3_lookAtInterval_23) (fun H locs hP hS => ?_)
    refine lv_aload_n hx hb dX3_lookAtInterval_26 rfl (lv_at hl 0 rfl) ?_
    refine lv_bipush (v := 9) hx hb dX3_lookAtInterval_27 (by decide) ?_
    refine lv_iload_n hx hb dX3_lookAtInterval_29 rfl (lv_at hl 1 rfl) ?_
    refine lv_iload_n hx hb dX3_lookAtInterval_30 rfl (lv_at hl 2 rfl) ?_
    refine lv_aload_n hx hb dX3_lookAtInterval_31 rfl (lv_at hl 0 rfl) ?_
    refine lv_aload_n hx hb dX3_lookAtInterval_32 rfl (lv_at hl 0 rfl) ?_
    obtain ⟨r3, q, h⟩ := ho_bd h
    refine hw_gr X hP LX3 fX3_25 rfl q dX3_lookAtInterval_33 ?_
    refine lv_iload_n hx hb dX3_lookAtInterval_36 rfl (lv_at hl 1 rfl) ?_
    obtain ⟨_, hs, h⟩ := ho_bd h
    obtain ⟨⟨v4, z⟩, q, h⟩ := ho_bd h
    refine hw_ci hS (hp_runV (As := [.ref r3, .int x1]) (rest := [.int x2, .int x1, .int 9, .ref a0]) X hP hS hl.1 LX3 (ho_is_s hs) kX3_127 ⟨m2_203, mp_12⟩ (c_X3_leads l G fu a0 r3 x1 _ _ _ q) rfl (Nat.le_of_ble_eq_true rfl) ⟨⟨Nat.le_of_ble_eq_true rfl, Nat.le_of_ble_eq_true rfl⟩, Nat.le_of_ble_eq_true rfl, Nat.le_of_ble_eq_true rfl⟩ dX3_lookAtInterval_37) (fun H locs hP hS => ?_)
    refine lv_if_eq (tgt := 59) hx hb dX3_lookAtInterval_40 (by decide) (fun hc => ?_) (fun hc => ?_)
    · replace h := ho_ip hc h
      exact B59 w3 x2 x1 9 a0 z _ _ _ h hP hS (lv_sub hl [0, 1, 2, 3] rfl)
    · replace h := ho_in hc h
      refine lv_aload_n hx hb dX3_lookAtInterval_43 rfl (lv_at hl 0 rfl) ?_
      refine lv_aload_n hx hb dX3_lookAtInterval_44 rfl (lv_at hl 0 rfl) ?_
      obtain ⟨r5, q, h⟩ := ho_bd h
      refine hw_gr X hP LX3 fX3_25 rfl q dX3_lookAtInterval_45 ?_
      refine lv_iload_n hx hb dX3_lookAtInterval_48 rfl (lv_at hl 2 rfl) ?_
      obtain ⟨_, hs, h⟩ := ho_bd h
      obtain ⟨⟨v6, z⟩, q, h⟩ := ho_bd h
      refine hw_ci hS (hp_runV (As := [.ref r5, .int x2]) (rest := [.int x2, .int x1, .int 9, .ref a0]) X hP hS hl.1 LX3 (ho_is_s hs) kX3_127 ⟨m2_203, mp_12⟩ (c_X3_leads l G fu a0 r5 x2 _ _ _ q) rfl (Nat.le_of_ble_eq_true rfl) ⟨⟨Nat.le_of_ble_eq_true rfl, Nat.le_of_ble_eq_true rfl⟩, Nat.le_of_ble_eq_true rfl, Nat.le_of_ble_eq_true rfl⟩ dX3_lookAtInterval_49) (fun H locs hP hS => ?_)
      refine lv_if_eq (tgt := 59) hx hb dX3_lookAtInterval_52 (by decide) (fun hc => ?_) (fun hc => ?_)
      · replace h := ho_ip hc h
        exact B59 w3 x2 x1 9 a0 z _ _ _ h hP hS (lv_sub hl [0, 1, 2, 3] rfl)
      · replace h := ho_in hc h
        refine lv_iconst (v := 1) hx hb dX3_lookAtInterval_55 (by decide) ?_
        refine lv_goto (tgt := 60) hx hb dX3_lookAtInterval_56 (by decide) ?_
        exact B60 w3 1 x2 x1 9 a0 z _ _ _ h hP hS (lv_sub hl [0, 1, 2, 3] rfl)
  unfold f_X3_lookAtInterval at h
  refine lv_aload_n hx hb dX3_lookAtInterval_0 rfl (lv_at hl 0 rfl) ?_
  obtain ⟨r1, q, h⟩ := ho_bd h
  refine hw_gr X hP LX3 fX3_25 rfl q dX3_lookAtInterval_1 ?_
  refine lv_iload_n hx hb dX3_lookAtInterval_4 rfl (lv_at hl 1 rfl) ?_
  refine lv_iload_n hx hb dX3_lookAtInterval_5 rfl (lv_at hl 2 rfl) ?_
  obtain ⟨_, hs, h⟩ := ho_bd h
  obtain ⟨⟨v2, z⟩, q, h⟩ := ho_bd h
  refine hw_ci hS (hp_runV (As := [.int x1, .int x2]) (rest := []) X hP hS hl.1 LX0 (ho_is_s hs) kX3_120 ⟨m2_198, m2_199⟩ (c_X0_heightUp l G fu r1 x1 x2 _ _ _ q) rfl (Nat.le_of_ble_eq_true rfl) ⟨⟨Nat.le_of_ble_eq_true rfl, Nat.le_of_ble_eq_true rfl⟩, Nat.le_of_ble_eq_true rfl, Nat.le_of_ble_eq_true rfl⟩ dX3_lookAtInterval_6) (fun H locs hP hS => ?_)
  refine lv_istore_n (lv' := [(3, .int v2), (0, .ref a0), (1, .int x1), (2, .int x2)]) hx hb dX3_lookAtInterval_9 rfl hl (by decide) rfl (fun ls hl => ?_)
  refine lv_aload_n hx hb dX3_lookAtInterval_10 rfl (lv_at hl 1 rfl) ?_
  refine lv_iconst (v := 3) hx hb dX3_lookAtInterval_11 (by decide) ?_
  refine lv_iload_n hx hb dX3_lookAtInterval_12 rfl (lv_at hl 2 rfl) ?_
  refine lv_iload_n hx hb dX3_lookAtInterval_13 rfl (lv_at hl 3 rfl) ?_
  refine lv_iload_n hx hb dX3_lookAtInterval_14 rfl (lv_at hl 0 rfl) ?_
  refine lv_if_ge (tgt := 22) hx hb dX3_lookAtInterval_15 (by decide) (fun hc => ?_) (fun hc => ?_)
  · replace h := ho_ip hc h
    refine lv_iconst (v := 0) hx hb dX3_lookAtInterval_22 (by decide) ?_
    exact B23 v2 0 x2 x1 3 a0 z _ _ _ h hP hS (lv_sub hl [1, 2, 3, 0] rfl)
  · replace h := ho_in hc h
    refine lv_iconst (v := 1) hx hb dX3_lookAtInterval_18 (by decide) ?_
    refine lv_goto (tgt := 23) hx hb dX3_lookAtInterval_19 (by decide) ?_
    exact B23 v2 1 x2 x1 3 a0 z _ _ _ h hP hS (lv_sub hl [1, 2, 3, 0] rfl)
def f_X3_lookAtMoment_B124 (fu : Nat) (a0 : Nat) (a1 : Nat) (z : hp_S) : Option hp_S :=
  some z
def f_X3_lookAtMoment_B118 (fu : Nat) (a0 : Nat) (a1 : Nat) (ag : Int32 → hp_S → Option hp_S) (kk : hp_S → Option hp_S) (w2 : Int32) (z : hp_S) : Option hp_S :=
  (ho_id (w2 + 1)).bind fun v5 =>
  ag v5 z
def f_X3_lookAtMoment_B112 (fu : Nat) (a0 : Nat) (a1 : Nat) (ag : Int32 → Int32 → hp_S → Option hp_S) (kk : Int32 → hp_S → Option hp_S) (w2 : Int32) (w4 : Int32) (z : hp_S) : Option hp_S :=
  (ho_id (w4 + 1)).bind fun v12 =>
  ag w2 v12 z
def f_X3_lookAtMoment_L83 (fu : Nat) (a0 : Nat) (a1 : Nat) (kk : Int32 → hp_S → Option hp_S) : Nat → Int32 → Int32 → hp_S → Option hp_S
  | 0, _, _, _ => none
  | n + 1, w2, w4, z =>
    (ho_gi 3 a0 4 z).bind fun v8 =>
    if v8 ≤ w4 then (
      kk w2 z
    ) else (
      (ho_gr 3 a0 2 z).bind fun r9 =>
      (ho_gr 0 r9 0 z).bind fun r10 =>
      (ho_li 2 r10 w4 z).bind fun v11 =>
      if v11 = 0 then (
        f_X3_lookAtMoment_B112 fu a0 a1 (f_X3_lookAtMoment_L83 fu a0 a1 kk n) kk w2 w4 z
      ) else (
        (ho_is 3 a0 z).bind fun _ =>
        (f_X3_lookAtInterval fu a0 w2 w4 z).bind fun z =>
        f_X3_lookAtMoment_B112 fu a0 a1 (f_X3_lookAtMoment_L83 fu a0 a1 kk n) kk w2 w4 z
      )
    )
def f_X3_lookAtMoment_B75 (fu : Nat) (a0 : Nat) (a1 : Nat) (ag : Int32 → hp_S → Option hp_S) (kk : hp_S → Option hp_S) (w2 : Int32) (s0 : Int32) (s1 : Int32) (s2 : Int32) (s3 : Nat) (z : hp_S) : Option hp_S :=
  (ho_is 3 s3 z).bind fun _ =>
  (f_X3_alone fu s3 s2 s1 s0 z).bind fun z =>
  (ho_id (w2 + 1)).bind fun v7 =>
  f_X3_lookAtMoment_L83 fu a0 a1 (f_X3_lookAtMoment_B118 fu a0 a1 ag kk) fu w2 v7 z
def f_X3_lookAtMoment_B74 (fu : Nat) (a0 : Nat) (a1 : Nat) (ag : Int32 → hp_S → Option hp_S) (kk : hp_S → Option hp_S) (w2 : Int32) (s0 : Int32) (s1 : Int32) (s2 : Nat) (z : hp_S) : Option hp_S :=
  f_X3_lookAtMoment_B75 fu a0 a1 ag kk w2 0 s0 s1 s2 z
def f_X3_lookAtMoment_B43 (fu : Nat) (a0 : Nat) (a1 : Nat) (ag : Int32 → hp_S → Option hp_S) (kk : hp_S → Option hp_S) (w2 : Int32) (s0 : Int32) (z : hp_S) : Option hp_S :=
  if s0 = 0 then (
    f_X3_lookAtMoment_B74 fu a0 a1 ag kk w2 w2 6 a0 z
  ) else (
    (ho_lr 4 a1 w2 z).bind fun r13 =>
    (ho_gr 3 a0 2 z).bind fun r14 =>
    (ho_gr 0 r14 3 z).bind fun r15 =>
    (ho_li 1 r15 w2 z).bind fun v16 =>
    (ho_is 4 r13 z).bind fun _ =>
    (f_X4_isOutside fu r13 v16 z).bind fun ⟨v17, z⟩ =>
    if v17 = 0 then (
      f_X3_lookAtMoment_B74 fu a0 a1 ag kk w2 w2 6 a0 z
    ) else (
      f_X3_lookAtMoment_B75 fu a0 a1 ag kk w2 1 w2 6 a0 z
    )
  )
def f_X3_lookAtMoment_B38 (fu : Nat) (a0 : Nat) (a1 : Nat) (ag : Int32 → hp_S → Option hp_S) (kk : hp_S → Option hp_S) (w2 : Int32) (z : hp_S) : Option hp_S :=
  f_X3_lookAtMoment_B43 fu a0 a1 ag kk w2 1 z
def f_X3_lookAtMoment_L2 (fu : Nat) (a0 : Nat) (a1 : Nat) (kk : hp_S → Option hp_S) : Nat → Int32 → hp_S → Option hp_S
  | 0, _, _ => none
  | n + 1, w2, z =>
    (ho_gi 3 a0 4 z).bind fun v1 =>
    if v1 ≤ w2 then (
      kk  z
    ) else (
      (ho_gr 3 a0 2 z).bind fun r2 =>
      (ho_gr 0 r2 0 z).bind fun r3 =>
      (ho_li 2 r3 w2 z).bind fun v4 =>
      if v4 = 0 then (
        f_X3_lookAtMoment_B118 fu a0 a1 (f_X3_lookAtMoment_L2 fu a0 a1 kk n) kk w2 z
      ) else (
        (ho_is 3 a0 z).bind fun _ =>
        (f_X3_goes fu a0 w2 z).bind fun ⟨v6, z⟩ =>
        if v6 = 0 then (
          f_X3_lookAtMoment_B38 fu a0 a1 (f_X3_lookAtMoment_L2 fu a0 a1 kk n) kk w2 z
        ) else (
          (ho_is 3 a0 z).bind fun _ =>
          (f_X3_moves fu a0 w2 z).bind fun ⟨v18, z⟩ =>
          if v18 = 0 then (
            f_X3_lookAtMoment_B43 fu a0 a1 (f_X3_lookAtMoment_L2 fu a0 a1 kk n) kk w2 0 z
          ) else (
            f_X3_lookAtMoment_B38 fu a0 a1 (f_X3_lookAtMoment_L2 fu a0 a1 kk n) kk w2 z
          )
        )
      )
    )
def f_X3_lookAtMoment (fu : Nat) (a0 : Nat) (a1 : Nat) (z : hp_S) : Option hp_S :=
  f_X3_lookAtMoment_L2 fu a0 a1 (f_X3_lookAtMoment_B124 fu a0 a1) fu 0 z
set_option maxHeartbeats 4000000 in
set_option maxRecDepth 100000 in
theorem c_X3_lookAtMoment (l : Launch) (G : hp_G) (fu : Nat) (a0 : Nat) (a1 : Nat) (z zq : hp_S) (h : f_X3_lookAtMoment fu a0 a1 z = some zq) : hp_M l G yX3_lookAtMoment cX3_lookAtMoment 5 none 4 89 0 0 [.ref a0, .ref a1] z (hp_Qv G zq) := by
  refine hp_M.of (by decide) (Nat.le_of_ble_eq_true rfl) ?_
  intro p e s m below meth c X hr hlocks hnm hP hS ls hl
  have X : hp_C G cX3_lookAtMoment RX3 5 p s m c := X
  have hl : lv_has ls 5 [(0, .ref a0), (1, .ref a1)] := hl
  have hx := X.1
  have hb := X.2.1
  have B124 : ∀ (z : hp_S) (H : Heap) (locs : List Loc) (ls : Array Slot), f_X3_lookAtMoment_B124 fu a0 a1 z = some zq → hp_P G z H → va_S (hp_A G) s.heap H locs → lv_has ls 5 [(0, .ref a0), (1, .ref a1)] → W p l e (hp_rm 4 89 0 0) s m [.ref a0, .ref a1].toArray below meth c H locs 0 0 (MQ below (hp_Qv G zq) [.ref a0, .ref a1].toArray s 0 0 (hp_A G)) (F0 m 124 ls []) := by
    intro z H locs ls h hP hS hl
    unfold f_X3_lookAtMoment_B124 at h
    exact hw_vret X hP hS hr hlocks h dX3_lookAtMoment_124
  have L2 : ∀ (n2 : Nat) (w2 : Int32) (z : hp_S) (H : Heap) (locs : List Loc) (ls : Array Slot), f_X3_lookAtMoment_L2 fu a0 a1 (f_X3_lookAtMoment_B124 fu a0 a1) n2 w2 z = some zq → hp_P G z H → va_S (hp_A G) s.heap H locs → lv_has ls 5 [(0, .ref a0), (1, .ref a1), (2, .int w2)] → W p l e (hp_rm 4 89 0 0) s m [.ref a0, .ref a1].toArray below meth c H locs 0 0 (MQ below (hp_Qv G zq) [.ref a0, .ref a1].toArray s 0 0 (hp_A G)) (F0 m 2 ls []) := by
    intro n2
    induction n2 with
    | zero =>
      intro w2 z H locs ls h
      exact nomatch (h : (none : Option hp_S) = some zq)
    | succ n2 ih2 =>
      have B118 : ∀ (w2 : Int32) (z : hp_S) (H : Heap) (locs : List Loc) (ls : Array Slot), f_X3_lookAtMoment_B118 fu a0 a1 (f_X3_lookAtMoment_L2 fu a0 a1 (f_X3_lookAtMoment_B124 fu a0 a1) n2) (f_X3_lookAtMoment_B124 fu a0 a1) w2 z = some zq → hp_P G z H → va_S (hp_A G) s.heap H locs → lv_has ls 5 [(0, .ref a0), (1, .ref a1), (2, .int w2)] → W p l e (hp_rm 4 89 0 0) s m [.ref a0, .ref a1].toArray below meth c H locs 0 0 (MQ below (hp_Qv G zq) [.ref a0, .ref a1].toArray s 0 0 (hp_A G)) (F0 m 118 ls []) := by
        intro w2 z H locs ls h hP hS hl
        unfold f_X3_lookAtMoment_B118 at h
        obtain ⟨v5, q, h⟩ := ho_bd h
        refine lv_iinc (v := v5) (lv' := [(2, .int v5), (0, .ref a0), (1, .ref a1)]) hx hb dX3_lookAtMoment_118 hl (k := 2) rfl (Option.some.inj q) (by decide) rfl (fun ls hl => ?_)
        refine lv_goto (tgt := 2) hx hb dX3_lookAtMoment_121 (by decide) ?_
        exact ih2 v5 z _ _ _ h hP hS (lv_sub hl [1, 2, 0] rfl)
      have L83 : ∀ (n83 : Nat) (w2 : Int32) (w4 : Int32) (z : hp_S) (H : Heap) (locs : List Loc) (ls : Array Slot), f_X3_lookAtMoment_L83 fu a0 a1 (f_X3_lookAtMoment_B118 fu a0 a1 (f_X3_lookAtMoment_L2 fu a0 a1 (f_X3_lookAtMoment_B124 fu a0 a1) n2) (f_X3_lookAtMoment_B124 fu a0 a1)) n83 w2 w4 z = some zq → hp_P G z H → va_S (hp_A G) s.heap H locs → lv_has ls 5 [(0, .ref a0), (1, .ref a1), (2, .int w2), (4, .int w4)] → W p l e (hp_rm 4 89 0 0) s m [.ref a0, .ref a1].toArray below meth c H locs 0 0 (MQ below (hp_Qv G zq) [.ref a0, .ref a1].toArray s 0 0 (hp_A G)) (F0 m 83 ls []) := by
        intro n83
        induction n83 with
        | zero =>
          intro w2 w4 z H locs ls h
          exact nomatch (h : (none : Option hp_S) = some zq)
        | succ n83 ih83 =>
          have B112 : ∀ (w2 : Int32) (w4 : Int32) (z : hp_S) (H : Heap) (locs : List Loc) (ls : Array Slot), f_X3_lookAtMoment_B112 fu a0 a1 (f_X3_lookAtMoment_L83 fu a0 a1 (f_X3_lookAtMoment_B118 fu a0 a1 (f_X3_lookAtMoment_L2 fu a0 a1 (f_X3_lookAtMoment_B124 fu a0 a1) n2) (f_X3_lookAtMoment_B124 fu a0 a1)) n83) (f_X3_lookAtMoment_B118 fu a0 a1 (f_X3_lookAtMoment_L2 fu a0 a1 (f_X3_lookAtMoment_B124 fu a0 a1) n2) (f_X3_lookAtMoment_B124 fu a0 a1)) w2 w4 z = some zq → hp_P G z H → va_S (hp_A G) s.heap H locs → lv_has ls 5 [(0, .ref a0), (1, .ref a1), (2, .int w2), (4, .int w4)] → W p l e (hp_rm 4 89 0 0) s m [.ref a0, .ref a1].toArray below meth c H locs 0 0 (MQ below (hp_Qv G zq) [.ref a0, .ref a1].toArray s 0 0 (hp_A G)) (F0 m 112 ls []) := by
            intro w2 w4 z H locs ls h hP hS hl
            unfold f_X3_lookAtMoment_B112 at h
            obtain ⟨v12, q, h⟩ := ho_bd h
            refine lv_iinc (v := v12) (lv' := [(4, .int v12), (0, .ref a0), (1, .ref a1), (2, .int w2)]) hx hb dX3_lookAtMoment_112 hl (k := 3) rfl (Option.some.inj q) (by decide) rfl (fun ls hl => ?_)
            refine lv_goto (tgt := 83) hx hb dX3_lookAtMoment_115 (by decide) ?_
            exact ih83 w2 v12 z _ _ _ h hP hS (lv_sub hl [1, 2, 3, 0] rfl)
          intro w2 w4 z H locs ls h hP hS hl
          rw [f_X3_lookAtMoment_L83] at h
          refine lv_iload hx hb dX3_lookAtMoment_83 (lv_at hl 3 rfl) ?_
          refine lv_aload_n hx hb dX3_lookAtMoment_85 rfl (lv_at hl 0 rfl) ?_
          obtain ⟨v8, q, h⟩ := ho_bd h
          refine hw_gi X hP LX3 fX3_58 rfl q dX3_lookAtMoment_86 ?_
          refine lv_icmp_ge (tgt := 118) hx hb dX3_lookAtMoment_89 (by decide) (fun hc => ?_) (fun hc => ?_)
          · replace h := ho_ip hc h
            exact B118 w2 z _ _ _ h hP hS (lv_sub hl [0, 1, 2] rfl)
          · replace h := ho_in hc h
            refine lv_aload_n hx hb dX3_lookAtMoment_92 rfl (lv_at hl 0 rfl) ?_
            obtain ⟨r9, q, h⟩ := ho_bd h
            refine hw_gr X hP LX3 fX3_25 rfl q dX3_lookAtMoment_93 ?_
            obtain ⟨r10, q, h⟩ := ho_bd h
            refine hw_gr X hP LX0 fX3_93 rfl q dX3_lookAtMoment_96 ?_
            refine lv_iload hx hb dX3_lookAtMoment_99 (lv_at hl 3 rfl) ?_
            obtain ⟨v11, q, h⟩ := ho_bd h
            refine hw_lz X hP q dX3_lookAtMoment_101 ?_
            refine lv_if_eq (tgt := 112) hx hb dX3_lookAtMoment_102 (by decide) (fun hc => ?_) (fun hc => ?_)
            · replace h := ho_ip hc h
              exact B112 w2 w4 z _ _ _ h hP hS (lv_sub hl [0, 1, 2, 3] rfl)
            · replace h := ho_in hc h
              refine lv_aload_n hx hb dX3_lookAtMoment_105 rfl (lv_at hl 0 rfl) ?_
              refine lv_iload_n hx hb dX3_lookAtMoment_106 rfl (lv_at hl 2 rfl) ?_
              refine lv_iload hx hb dX3_lookAtMoment_107 (lv_at hl 3 rfl) ?_
              obtain ⟨_, hs, h⟩ := ho_bd h
              obtain ⟨z, q, h⟩ := ho_bd h
              refine hw_cv hS (hp_runV (As := [.int w2, .int w4]) (rest := []) X hP hS hl.1 LX3 (ho_is_s hs) kX3_116 ⟨m2_195, mp_11⟩ (c_X3_lookAtInterval l G fu a0 w2 w4 _ _ q) rfl (Nat.le_of_ble_eq_true rfl) ⟨⟨Nat.le_of_ble_eq_true rfl, Nat.le_of_ble_eq_true rfl⟩, Nat.le_of_ble_eq_true rfl, Nat.le_of_ble_eq_true rfl⟩ dX3_lookAtMoment_109) (fun H locs hP hS => ?_)
              exact B112 w2 w4 z _ _ _ h hP hS (lv_sub hl [0, 1, 2, 3] rfl)
      have B75 : ∀ (w2 : Int32) (s0 : Int32) (s1 : Int32) (s2 : Int32) (s3 : Nat) (z : hp_S) (H : Heap) (locs : List Loc) (ls : Array Slot), f_X3_lookAtMoment_B75 fu a0 a1 (f_X3_lookAtMoment_L2 fu a0 a1 (f_X3_lookAtMoment_B124 fu a0 a1) n2) (f_X3_lookAtMoment_B124 fu a0 a1) w2 s0 s1 s2 s3 z = some zq → hp_P G z H → va_S (hp_A G) s.heap H locs → lv_has ls 5 [(0, .ref a0), (1, .ref a1), (2, .int w2)] → W p l e (hp_rm 4 89 0 0) s m [.ref a0, .ref a1].toArray below meth c H locs 0 0 (MQ below (hp_Qv G zq) [.ref a0, .ref a1].toArray s 0 0 (hp_A G)) (F0 m 75 ls [.int s0, .int s1, .int s2, .ref s3]) := by
        intro w2 s0 s1 s2 s3 z H locs ls h hP hS hl
        unfold f_X3_lookAtMoment_B75 at h
        obtain ⟨_, hs, h⟩ := ho_bd h
        obtain ⟨z, q, h⟩ := ho_bd h
        refine hw_cv hS (hp_runV (As := [.int s2, .int s1, .int s0]) (rest := []) X hP hS hl.1 LX3 (ho_is_s hs) kX3_112 ⟨m2_183, mp_9⟩ (c_X3_alone l G fu s3 s2 s1 s0 _ _ q) rfl (Nat.le_of_ble_eq_true rfl) ⟨⟨Nat.le_of_ble_eq_true rfl, Nat.le_of_ble_eq_true rfl⟩, Nat.le_of_ble_eq_true rfl, Nat.le_of_ble_eq_true rfl⟩ dX3_lookAtMoment_75) (fun H locs hP hS => ?_)
        refine lv_iload_n hx hb dX3_lookAtMoment_78 rfl (lv_at hl 2 rfl) ?_
        refine lv_iconst (v := 1) hx hb dX3_lookAtMoment_79 (by decide) ?_
        refine lv_iadd hx hb dX3_lookAtMoment_80 ?_
        obtain ⟨v7, q, h⟩ := ho_bd h
        refine hw_id q ?_
        refine lv_istore (lv' := [(4, .int v7), (0, .ref a0), (1, .ref a1), (2, .int w2)]) hx hb dX3_lookAtMoment_81 hl (by decide) rfl (fun ls hl => ?_)
        exact L83 fu w2 v7 z _ _ _ h hP hS (lv_sub hl [1, 2, 3, 0] rfl)
      have B74 : ∀ (w2 : Int32) (s0 : Int32) (s1 : Int32) (s2 : Nat) (z : hp_S) (H : Heap) (locs : List Loc) (ls : Array Slot), f_X3_lookAtMoment_B74 fu a0 a1 (f_X3_lookAtMoment_L2 fu a0 a1 (f_X3_lookAtMoment_B124 fu a0 a1) n2) (f_X3_lookAtMoment_B124 fu a0 a1) w2 s0 s1 s2 z = some zq → hp_P G z H → va_S (hp_A G) s.heap H locs → lv_has ls 5 [(0, .ref a0), (1, .ref a1), (2, .int w2)] → W p l e (hp_rm 4 89 0 0) s m [.ref a0, .ref a1].toArray below meth c H locs 0 0 (MQ below (hp_Qv G zq) [.ref a0, .ref a1].toArray s 0 0 (hp_A G)) (F0 m 74 ls [.int s0, .int s1, .ref s2]) := by
        intro w2 s0 s1 s2 z H locs ls h hP hS hl
        unfold f_X3_lookAtMoment_B74 at h
        refine lv_iconst (v := 0) hx hb dX3_lookAtMoment_74 (by decide) ?_
        exact B75 w2 0 s0 s1 s2 z _ _ _ h hP hS (lv_sub hl [0, 1, 2] rfl)
      have B43 : ∀ (w2 : Int32) (s0 : Int32) (z : hp_S) (H : Heap) (locs : List Loc) (ls : Array Slot), f_X3_lookAtMoment_B43 fu a0 a1 (f_X3_lookAtMoment_L2 fu a0 a1 (f_X3_lookAtMoment_B124 fu a0 a1) n2) (f_X3_lookAtMoment_B124 fu a0 a1) w2 s0 z = some zq → hp_P G z H → va_S (hp_A G) s.heap H locs → lv_has ls 5 [(0, .ref a0), (1, .ref a1), (2, .int w2)] → W p l e (hp_rm 4 89 0 0) s m [.ref a0, .ref a1].toArray below meth c H locs 0 0 (MQ below (hp_Qv G zq) [.ref a0, .ref a1].toArray s 0 0 (hp_A G)) (F0 m 43 ls [.int s0]) := by
        intro w2 s0 z H locs ls h hP hS hl
        unfold f_X3_lookAtMoment_B43 at h
        refine lv_istore_n (lv' := [(3, .int s0), (0, .ref a0), (1, .ref a1), (2, .int w2)]) hx hb dX3_lookAtMoment_43 rfl hl (by decide) rfl (fun ls hl => ?_)
        refine lv_aload_n hx hb dX3_lookAtMoment_44 rfl (lv_at hl 1 rfl) ?_
        refine lv_bipush (v := 6) hx hb dX3_lookAtMoment_45 (by decide) ?_
        refine lv_iload_n hx hb dX3_lookAtMoment_47 rfl (lv_at hl 3 rfl) ?_
        refine lv_iload_n hx hb dX3_lookAtMoment_48 rfl (lv_at hl 0 rfl) ?_
        refine lv_if_eq (tgt := 74) hx hb dX3_lookAtMoment_49 (by decide) (fun hc => ?_) (fun hc => ?_)
        · replace h := ho_ip hc h
          exact B74 w2 w2 6 a0 z _ _ _ h hP hS (lv_sub hl [1, 2, 3] rfl)
        · replace h := ho_in hc h
          refine lv_aload_n hx hb dX3_lookAtMoment_52 rfl (lv_at hl 2 rfl) ?_
          refine lv_iload_n hx hb dX3_lookAtMoment_53 rfl (lv_at hl 3 rfl) ?_
          obtain ⟨r13, q, h⟩ := ho_bd h
          refine hw_lr (t0 := 2) X hP rfl q dX3_lookAtMoment_54 ?_
          refine lv_aload_n hx hb dX3_lookAtMoment_55 rfl (lv_at hl 1 rfl) ?_
          obtain ⟨r14, q, h⟩ := ho_bd h
          refine hw_gr X hP LX3 fX3_25 rfl q dX3_lookAtMoment_56 ?_
          obtain ⟨r15, q, h⟩ := ho_bd h
          refine hw_gr X hP LX0 fX3_104 rfl q dX3_lookAtMoment_59 ?_
          refine lv_iload_n hx hb dX3_lookAtMoment_62 rfl (lv_at hl 3 rfl) ?_
          obtain ⟨v16, q, h⟩ := ho_bd h
          refine hw_li X hP q dX3_lookAtMoment_63 ?_
          obtain ⟨_, hs, h⟩ := ho_bd h
          obtain ⟨⟨v17, z⟩, q, h⟩ := ho_bd h
          refine hw_ci hS (hp_runV (As := [.int v16]) (rest := [.int w2, .int 6, .ref a0]) X hP hS hl.1 LX4 (ho_is_s hs) kX3_107 ⟨m2_101, m2_102⟩ (c_X4_isOutside l G fu r13 v16 _ _ _ q) rfl (Nat.le_of_ble_eq_true rfl) ⟨⟨Nat.le_of_ble_eq_true rfl, Nat.le_of_ble_eq_true rfl⟩, Nat.le_of_ble_eq_true rfl, Nat.le_of_ble_eq_true rfl⟩ dX3_lookAtMoment_64) (fun H locs hP hS => ?_)
          refine lv_if_eq (tgt := 74) hx hb dX3_lookAtMoment_67 (by decide) (fun hc => ?_) (fun hc => ?_)
          · replace h := ho_ip hc h
            exact B74 w2 w2 6 a0 z _ _ _ h hP hS (lv_sub hl [1, 2, 3] rfl)
          · replace h := ho_in hc h
            refine lv_iconst (v := 1) hx hb dX3_lookAtMoment_70 (by decide) ?_
            refine lv_goto (tgt := 75) hx hb dX3_lookAtMoment_71 (by decide) ?_
            exact B75 w2 1 w2 6 a0 z _ _ _ h hP hS (lv_sub hl [1, 2, 3] rfl)
      have B38 : ∀ (w2 : Int32) (z : hp_S) (H : Heap) (locs : List Loc) (ls : Array Slot), f_X3_lookAtMoment_B38 fu a0 a1 (f_X3_lookAtMoment_L2 fu a0 a1 (f_X3_lookAtMoment_B124 fu a0 a1) n2) (f_X3_lookAtMoment_B124 fu a0 a1) w2 z = some zq → hp_P G z H → va_S (hp_A G) s.heap H locs → lv_has ls 5 [(0, .ref a0), (1, .ref a1), (2, .int w2)] → W p l e (hp_rm 4 89 0 0) s m [.ref a0, .ref a1].toArray below meth c H locs 0 0 (MQ below (hp_Qv G zq) [.ref a0, .ref a1].toArray s 0 0 (hp_A G)) (F0 m 38 ls []) := by
        intro w2 z H locs ls h hP hS hl
        unfold f_X3_lookAtMoment_B38 at h
        refine lv_iconst (v := 1) hx hb dX3_lookAtMoment_38 (by decide) ?_
        refine lv_goto (tgt := 43) hx hb dX3_lookAtMoment_39 (by decide) ?_
        exact B43 w2 1 z _ _ _ h hP hS (lv_sub hl [0, 1, 2] rfl)
      intro w2 z H locs ls h hP hS hl
      rw [f_X3_lookAtMoment_L2] at h
      refine lv_iload_n hx hb dX3_lookAtMoment_2 rfl (lv_at hl 2 rfl) ?_
      refine lv_aload_n hx hb dX3_lookAtMoment_3 rfl (lv_at hl 0 rfl) ?_
      obtain ⟨v1, q, h⟩ := ho_bd h
      refine hw_gi X hP LX3 fX3_58 rfl q dX3_lookAtMoment_4 ?_
      refine lv_icmp_ge (tgt := 124) hx hb dX3_lookAtMoment_7 (by decide) (fun hc => ?_) (fun hc => ?_)
      · replace h := ho_ip hc h
        exact B124 z _ _ _ h hP hS (lv_sub hl [0, 1] rfl)
      · replace h := ho_in hc h
        refine lv_aload_n hx hb dX3_lookAtMoment_10 rfl (lv_at hl 0 rfl) ?_
        obtain ⟨r2, q, h⟩ := ho_bd h
        refine hw_gr X hP LX3 fX3_25 rfl q dX3_lookAtMoment_11 ?_
        obtain ⟨r3, q, h⟩ := ho_bd h
        refine hw_gr X hP LX0 fX3_93 rfl q dX3_lookAtMoment_14 ?_
        refine lv_iload_n hx hb dX3_lookAtMoment_17 rfl (lv_at hl 2 rfl) ?_
        obtain ⟨v4, q, h⟩ := ho_bd h
        refine hw_lz X hP q dX3_lookAtMoment_18 ?_
        refine lv_if_eq (tgt := 118) hx hb dX3_lookAtMoment_19 (by decide) (fun hc => ?_) (fun hc => ?_)
        · replace h := ho_ip hc h
          exact B118 w2 z _ _ _ h hP hS (lv_sub hl [0, 1, 2] rfl)
        · replace h := ho_in hc h
          refine lv_aload_n hx hb dX3_lookAtMoment_22 rfl (lv_at hl 0 rfl) ?_
          refine lv_iload_n hx hb dX3_lookAtMoment_23 rfl (lv_at hl 2 rfl) ?_
          obtain ⟨_, hs, h⟩ := ho_bd h
          obtain ⟨⟨v6, z⟩, q, h⟩ := ho_bd h
          refine hw_ci hS (hp_runV (As := [.int w2]) (rest := []) X hP hS hl.1 LX3 (ho_is_s hs) kX3_97 ⟨m2_174, mp_7⟩ (c_X3_goes l G fu a0 w2 _ _ _ q) rfl (Nat.le_of_ble_eq_true rfl) ⟨⟨Nat.le_of_ble_eq_true rfl, Nat.le_of_ble_eq_true rfl⟩, Nat.le_of_ble_eq_true rfl, Nat.le_of_ble_eq_true rfl⟩ dX3_lookAtMoment_24) (fun H locs hP hS => ?_)
          refine lv_if_eq (tgt := 38) hx hb dX3_lookAtMoment_27 (by decide) (fun hc => ?_) (fun hc => ?_)
          · replace h := ho_ip hc h
            exact B38 w2 z _ _ _ h hP hS (lv_sub hl [0, 1, 2] rfl)
          · replace h := ho_in hc h
            refine lv_aload_n hx hb dX3_lookAtMoment_30 rfl (lv_at hl 0 rfl) ?_
            refine lv_iload_n hx hb dX3_lookAtMoment_31 rfl (lv_at hl 2 rfl) ?_
            obtain ⟨_, hs, h⟩ := ho_bd h
            obtain ⟨⟨v18, z⟩, q, h⟩ := ho_bd h
            refine hw_ci hS (hp_runV (As := [.int w2]) (rest := []) X hP hS hl.1 LX3 (ho_is_s hs) kX3_101 ⟨m2_178, mp_8⟩ (c_X3_moves l G fu a0 w2 _ _ _ q) rfl (Nat.le_of_ble_eq_true rfl) ⟨⟨Nat.le_of_ble_eq_true rfl, Nat.le_of_ble_eq_true rfl⟩, Nat.le_of_ble_eq_true rfl, Nat.le_of_ble_eq_true rfl⟩ dX3_lookAtMoment_32) (fun H locs hP hS => ?_)
            refine lv_if_eq (tgt := 42) hx hb dX3_lookAtMoment_35 (by decide) (fun hc => ?_) (fun hc => ?_)
            · replace h := ho_ip hc h
              refine lv_iconst (v := 0) hx hb dX3_lookAtMoment_42 (by decide) ?_
              exact B43 w2 0 z _ _ _ h hP hS (lv_sub hl [0, 1, 2] rfl)
            · replace h := ho_in hc h
              exact B38 w2 z _ _ _ h hP hS (lv_sub hl [0, 1, 2] rfl)
  unfold f_X3_lookAtMoment at h
  refine lv_iconst (v := 0) hx hb dX3_lookAtMoment_0 (by decide) ?_
  refine lv_istore_n (lv' := [(2, .int 0), (0, .ref a0), (1, .ref a1)]) hx hb dX3_lookAtMoment_1 rfl hl (by decide) rfl (fun ls hl => ?_)
  exact L2 fu 0 z _ _ _ h hP hS (lv_sub hl [1, 2, 0] rfl)
