def f_X7_begin_B56 (fu : Nat) (a0 : Nat) (z : hp_S) : Option hp_S :=
  (ho_pi 7 a0 8 0 z).bind fun z =>
  (ho_pi 7 a0 9 0 z).bind fun z =>
  (ho_pi 7 a0 10 0 z).bind fun z =>
  (ho_pi 7 a0 13 0 z).bind fun z =>
  (ho_pi 7 a0 19 0 z).bind fun z =>
  (ho_pi 7 a0 20 0 z).bind fun z =>
  some z
def f_X7_begin_L37 (fu : Nat) (a0 : Nat) (kk : hp_S → Option hp_S) : Nat → Int32 → hp_S → Option hp_S
  | 0, _, _ => none
  | n + 1, w1, z =>
    if 14 ≤ w1 then (
      kk  z
    ) else (
      (ho_gr 7 a0 7 z).bind fun r1 =>
      (ho_sz r1 w1 1 z).bind fun z =>
      (ho_id (w1 + 1)).bind fun v2 =>
      (f_X7_begin_L37 fu a0 kk n) v2 z
    )
def f_X7_begin_B35 (fu : Nat) (a0 : Nat) (z : hp_S) : Option hp_S :=
  f_X7_begin_L37 fu a0 (f_X7_begin_B56 fu a0) fu 0 z
def f_X7_begin_L2 (fu : Nat) (a0 : Nat) (kk : hp_S → Option hp_S) : Nat → Int32 → hp_S → Option hp_S
  | 0, _, _ => none
  | n + 1, w1, z =>
    if 5 ≤ w1 then (
      kk  z
    ) else (
      (ho_gr 7 a0 1 z).bind fun r3 =>
      (ho_si r3 w1 0 z).bind fun z =>
      (ho_gr 7 a0 5 z).bind fun r4 =>
      (ho_si r4 w1 0 z).bind fun z =>
      (ho_gr 7 a0 6 z).bind fun r5 =>
      (ho_si r5 w1 96 z).bind fun z =>
      (ho_id (w1 + 1)).bind fun v6 =>
      (f_X7_begin_L2 fu a0 kk n) v6 z
    )
def f_X7_begin (fu : Nat) (a0 : Nat) (z : hp_S) : Option hp_S :=
  f_X7_begin_L2 fu a0 (f_X7_begin_B35 fu a0) fu 0 z
set_option maxHeartbeats 4000000 in
set_option maxRecDepth 100000 in
theorem c_X7_begin (l : Launch) (G : hp_G) (fu : Nat) (a0 : Nat) (z zq : hp_S) (h : f_X7_begin fu a0 z = some zq) : hp_M l G yX7_begin cX7_begin 2 none 0 0 0 0 [.ref a0] z (hp_Qv G zq) := by
  refine hp_M.of (by decide) (Nat.le_of_ble_eq_true rfl) ?_
  intro p e s m below meth c X hr hlocks hnm hP hS ls hl
  have X : hp_C G cX7_begin RX7 2 p s m c := X
  have hl : lv_has ls 2 [(0, .ref a0)] := hl
  have hx := X.1
  have hb := X.2.1
  have B56 : ∀ (z : hp_S) (H : Heap) (locs : List Loc) (ls : Array Slot), f_X7_begin_B56 fu a0 z = some zq → hp_P G z H → va_S (hp_A G) s.heap H locs → lv_has ls 2 [(0, .ref a0)] → W p l e (hp_rm 0 0 0 0) s m [.ref a0].toArray below meth c H locs 0 0 (MQ below (hp_Qv G zq) [.ref a0].toArray s 0 0 (hp_A G)) (F0 m 56 ls []) := by
    intro z H locs ls h hP hS hl
    unfold f_X7_begin_B56 at h
    refine lv_aload_n hx hb dX7_begin_56 rfl (lv_at hl 0 rfl) ?_
    refine lv_iconst (v := 0) hx hb dX7_begin_57 (by decide) ?_
    obtain ⟨z, q, h⟩ := ho_bd h
    refine hw_pi X hP hS LX7 fX7_63 rfl rfl rfl q dX7_begin_58 (fun H locs hP hS => ?_)
    refine lv_aload_n hx hb dX7_begin_61 rfl (lv_at hl 0 rfl) ?_
    refine lv_iconst (v := 0) hx hb dX7_begin_62 (by decide) ?_
    obtain ⟨z, q, h⟩ := ho_bd h
    refine hw_pi X hP hS LX7 fX7_66 rfl rfl rfl q dX7_begin_63 (fun H locs hP hS => ?_)
    refine lv_aload_n hx hb dX7_begin_66 rfl (lv_at hl 0 rfl) ?_
    refine lv_iconst (v := 0) hx hb dX7_begin_67 (by decide) ?_
    obtain ⟨z, q, h⟩ := ho_bd h
    refine hw_pi X hP hS LX7 fX7_69 rfl rfl rfl q dX7_begin_68 (fun H locs hP hS => ?_)
    refine lv_aload_n hx hb dX7_begin_71 rfl (lv_at hl 0 rfl) ?_
    refine lv_iconst (v := 0) hx hb dX7_begin_72 (by decide) ?_
    obtain ⟨z, q, h⟩ := ho_bd h
    refine hw_pi X hP hS LX7 fX7_72 rfl rfl rfl q dX7_begin_73 (fun H locs hP hS => ?_)
    refine lv_aload_n hx hb dX7_begin_76 rfl (lv_at hl 0 rfl) ?_
    refine lv_iconst (v := 0) hx hb dX7_begin_77 (by decide) ?_
    obtain ⟨z, q, h⟩ := ho_bd h
    refine hw_pi X hP hS LX7 fX7_75 rfl rfl rfl q dX7_begin_78 (fun H locs hP hS => ?_)
    refine lv_aload_n hx hb dX7_begin_81 rfl (lv_at hl 0 rfl) ?_
    refine lv_iconst (v := 0) hx hb dX7_begin_82 (by decide) ?_
    obtain ⟨z, q, h⟩ := ho_bd h
    refine hw_pi X hP hS LX7 fX7_78 rfl rfl rfl q dX7_begin_83 (fun H locs hP hS => ?_)
    exact hw_vret X hP hS hr hlocks h dX7_begin_86
  have L37 : ∀ (n37 : Nat) (w1 : Int32) (z : hp_S) (H : Heap) (locs : List Loc) (ls : Array Slot), f_X7_begin_L37 fu a0 (f_X7_begin_B56 fu a0) n37 w1 z = some zq → hp_P G z H → va_S (hp_A G) s.heap H locs → lv_has ls 2 [(0, .ref a0), (1, .int w1)] → W p l e (hp_rm 0 0 0 0) s m [.ref a0].toArray below meth c H locs 0 0 (MQ below (hp_Qv G zq) [.ref a0].toArray s 0 0 (hp_A G)) (F0 m 37 ls []) := by
    intro n37
    induction n37 with
    | zero =>
      intro w1 z H locs ls h
      exact nomatch (h : (none : Option hp_S) = some zq)
    | succ n37 ih37 =>
      intro w1 z H locs ls h hP hS hl
      rw [f_X7_begin_L37] at h
      refine lv_iload_n hx hb dX7_begin_37 rfl (lv_at hl 1 rfl) ?_
      refine lv_bipush (v := 14) hx hb dX7_begin_38 (by decide) ?_
      refine lv_icmp_ge (tgt := 56) hx hb dX7_begin_40 (by decide) (fun hc => ?_) (fun hc => ?_)
      · replace h := ho_ip hc h
        exact B56 z _ _ _ h hP hS (lv_sub hl [0] rfl)
      · replace h := ho_in hc h
        refine lv_aload_n hx hb dX7_begin_43 rfl (lv_at hl 0 rfl) ?_
        obtain ⟨r1, q, h⟩ := ho_bd h
        refine hw_gr X hP LX7 fX7_28 rfl q dX7_begin_44 ?_
        refine lv_iload_n hx hb dX7_begin_47 rfl (lv_at hl 1 rfl) ?_
        refine lv_iconst (v := 1) hx hb dX7_begin_48 (by decide) ?_
        obtain ⟨z, q, h⟩ := ho_bd h
        refine hw_sz X hP hS q dX7_begin_49 (fun H locs hP hS => ?_)
        obtain ⟨v2, q, h⟩ := ho_bd h
        refine lv_iinc (v := v2) (lv' := [(1, .int v2), (0, .ref a0)]) hx hb dX7_begin_50 hl (k := 1) rfl (Option.some.inj q) (by decide) rfl (fun ls hl => ?_)
        refine lv_goto (tgt := 37) hx hb dX7_begin_53 (by decide) ?_
        exact ih37 v2 z _ _ _ h hP hS (lv_sub hl [1, 0] rfl)
  have B35 : ∀ (z : hp_S) (H : Heap) (locs : List Loc) (ls : Array Slot), f_X7_begin_B35 fu a0 z = some zq → hp_P G z H → va_S (hp_A G) s.heap H locs → lv_has ls 2 [(0, .ref a0)] → W p l e (hp_rm 0 0 0 0) s m [.ref a0].toArray below meth c H locs 0 0 (MQ below (hp_Qv G zq) [.ref a0].toArray s 0 0 (hp_A G)) (F0 m 35 ls []) := by
    intro z H locs ls h hP hS hl
    unfold f_X7_begin_B35 at h
    refine lv_iconst (v := 0) hx hb dX7_begin_35 (by decide) ?_
    refine lv_istore_n (lv' := [(1, .int 0), (0, .ref a0)]) hx hb dX7_begin_36 rfl hl (by decide) rfl (fun ls hl => ?_)
    exact L37 fu 0 z _ _ _ h hP hS (lv_sub hl [1, 0] rfl)
  have L2 : ∀ (n2 : Nat) (w1 : Int32) (z : hp_S) (H : Heap) (locs : List Loc) (ls : Array Slot), f_X7_begin_L2 fu a0 (f_X7_begin_B35 fu a0) n2 w1 z = some zq → hp_P G z H → va_S (hp_A G) s.heap H locs → lv_has ls 2 [(0, .ref a0), (1, .int w1)] → W p l e (hp_rm 0 0 0 0) s m [.ref a0].toArray below meth c H locs 0 0 (MQ below (hp_Qv G zq) [.ref a0].toArray s 0 0 (hp_A G)) (F0 m 2 ls []) := by
    intro n2
    induction n2 with
    | zero =>
      intro w1 z H locs ls h
      exact nomatch (h : (none : Option hp_S) = some zq)
    | succ n2 ih2 =>
      intro w1 z H locs ls h hP hS hl
      rw [f_X7_begin_L2] at h
      refine lv_iload_n hx hb dX7_begin_2 rfl (lv_at hl 1 rfl) ?_
      refine lv_iconst (v := 5) hx hb dX7_begin_3 (by decide) ?_
      refine lv_icmp_ge (tgt := 35) hx hb dX7_begin_4 (by decide) (fun hc => ?_) (fun hc => ?_)
      · replace h := ho_ip hc h
        exact B35 z _ _ _ h hP hS (lv_sub hl [0] rfl)
      · replace h := ho_in hc h
        refine lv_aload_n hx hb dX7_begin_7 rfl (lv_at hl 0 rfl) ?_
        obtain ⟨r3, q, h⟩ := ho_bd h
        refine hw_gr X hP LX7 fX7_7 rfl q dX7_begin_8 ?_
        refine lv_iload_n hx hb dX7_begin_11 rfl (lv_at hl 1 rfl) ?_
        refine lv_iconst (v := 0) hx hb dX7_begin_12 (by decide) ?_
        obtain ⟨z, q, h⟩ := ho_bd h
        refine hw_si X hP hS q dX7_begin_13 (fun H locs hP hS => ?_)
        refine lv_aload_n hx hb dX7_begin_14 rfl (lv_at hl 0 rfl) ?_
        obtain ⟨r4, q, h⟩ := ho_bd h
        refine hw_gr X hP LX7 fX7_22 rfl q dX7_begin_15 ?_
        refine lv_iload_n hx hb dX7_begin_18 rfl (lv_at hl 1 rfl) ?_
        refine lv_iconst (v := 0) hx hb dX7_begin_19 (by decide) ?_
        obtain ⟨z, q, h⟩ := ho_bd h
        refine hw_si X hP hS q dX7_begin_20 (fun H locs hP hS => ?_)
        refine lv_aload_n hx hb dX7_begin_21 rfl (lv_at hl 0 rfl) ?_
        obtain ⟨r5, q, h⟩ := ho_bd h
        refine hw_gr X hP LX7 fX7_25 rfl q dX7_begin_22 ?_
        refine lv_iload_n hx hb dX7_begin_25 rfl (lv_at hl 1 rfl) ?_
        refine lv_bipush (v := 96) hx hb dX7_begin_26 (by decide) ?_
        obtain ⟨z, q, h⟩ := ho_bd h
        refine hw_si X hP hS q dX7_begin_28 (fun H locs hP hS => ?_)
        obtain ⟨v6, q, h⟩ := ho_bd h
        refine lv_iinc (v := v6) (lv' := [(1, .int v6), (0, .ref a0)]) hx hb dX7_begin_29 hl (k := 1) rfl (Option.some.inj q) (by decide) rfl (fun ls hl => ?_)
        refine lv_goto (tgt := 2) hx hb dX7_begin_32 (by decide) ?_
        exact ih2 v6 z _ _ _ h hP hS (lv_sub hl [1, 0] rfl)
  unfold f_X7_begin at h
  refine lv_iconst (v := 0) hx hb dX7_begin_0 (by decide) ?_
  refine lv_istore_n (lv' := [(1, .int 0), (0, .ref a0)]) hx hb dX7_begin_1 rfl hl (by decide) rfl (fun ls hl => ?_)
  exact L2 fu 0 z _ _ _ h hP hS (lv_sub hl [1, 0] rfl)
def f_X7_init_B141 (fu : Nat) (a0 : Nat) (x1 : Int32) (s0 : Int32) (s1 : Nat) (z : hp_S) : Option hp_S :=
  (ho_pi 7 s1 0 s0 z).bind fun z =>
  (ho_is 7 a0 z).bind fun _ =>
  (f_X7_begin fu a0 z).bind fun z =>
  some z
def f_X7_init (fu : Nat) (a0 : Nat) (x1 : Int32) (z : hp_S) : Option hp_S :=
  (ho_na 1 5 5 z).bind fun ⟨r1, z⟩ =>
  (ho_pr 7 a0 1 r1 z).bind fun z =>
  (ho_na 1 120 120 z).bind fun ⟨r2, z⟩ =>
  (ho_pr 7 a0 2 r2 z).bind fun z =>
  (ho_na 1 120 120 z).bind fun ⟨r3, z⟩ =>
  (ho_pr 7 a0 3 r3 z).bind fun z =>
  (ho_na 1 120 120 z).bind fun ⟨r4, z⟩ =>
  (ho_pr 7 a0 4 r4 z).bind fun z =>
  (ho_na 1 5 5 z).bind fun ⟨r5, z⟩ =>
  (ho_pr 7 a0 5 r5 z).bind fun z =>
  (ho_na 1 5 5 z).bind fun ⟨r6, z⟩ =>
  (ho_pr 7 a0 6 r6 z).bind fun z =>
  (ho_na 2 14 14 z).bind fun ⟨r7, z⟩ =>
  (ho_pr 7 a0 7 r7 z).bind fun z =>
  (ho_na 1 4 4 z).bind fun ⟨r8, z⟩ =>
  (ho_pr 7 a0 11 r8 z).bind fun z =>
  (ho_na 1 4 4 z).bind fun ⟨r9, z⟩ =>
  (ho_pr 7 a0 12 r9 z).bind fun z =>
  (ho_na 1 20 20 z).bind fun ⟨r10, z⟩ =>
  (ho_pr 7 a0 14 r10 z).bind fun z =>
  (ho_na 1 20 20 z).bind fun ⟨r11, z⟩ =>
  (ho_pr 7 a0 15 r11 z).bind fun z =>
  (ho_na 1 120 120 z).bind fun ⟨r12, z⟩ =>
  (ho_pr 7 a0 17 r12 z).bind fun z =>
  (ho_na 1 600 600 z).bind fun ⟨r13, z⟩ =>
  (ho_pr 7 a0 18 r13 z).bind fun z =>
  (ho_na 1 12300 12300 z).bind fun ⟨r14, z⟩ =>
  (ho_pr 7 a0 21 r14 z).bind fun z =>
  (ho_na 1 120 120 z).bind fun ⟨r15, z⟩ =>
  (ho_pr 7 a0 22 r15 z).bind fun z =>
  if 2 ≤ x1 then (
    if x1 ≤ 5 then (
      f_X7_init_B141 fu a0 x1 x1 a0 z
    ) else (
      f_X7_init_B141 fu a0 x1 5 a0 z
    )
  ) else (
    f_X7_init_B141 fu a0 x1 2 a0 z
  )
set_option maxHeartbeats 4000000 in
set_option maxRecDepth 100000 in
theorem c_X7_init (l : Launch) (G : hp_G) (fu : Nat) (a0 : Nat) (x1 : Int32) (z zq : hp_S) (h : f_X7_init fu a0 x1 z = some zq) : hp_M l G yX7_init cX7_init 2 none 1 21 15 13577 [.ref a0, .int x1] z (hp_Qv G zq) := by
  refine hp_M.of (by decide) (Nat.le_of_ble_eq_true rfl) ?_
  intro p e s m below meth c X hr hlocks hnm hP hS ls hl
  have X : hp_C G cX7_init RX7 2 p s m c := X
  have hl : lv_has ls 2 [(0, .ref a0), (1, .int x1)] := hl
  have hx := X.1
  have hb := X.2.1
  have B141 : ∀ (s0 : Int32) (s1 : Nat) (z : hp_S) (H : Heap) (locs : List Loc) (ls : Array Slot), f_X7_init_B141 fu a0 x1 s0 s1 z = some zq → hp_P G z H → va_S (hp_A G) s.heap H locs → lv_has ls 2 [(0, .ref a0), (1, .int x1)] → W p l e (hp_rm 1 21 15 13577) s m [.ref a0, .int x1].toArray below meth c H locs 15 13577 (MQ below (hp_Qv G zq) [.ref a0, .int x1].toArray s 15 13577 (hp_A G)) (F0 m 141 ls [.int s0, .ref s1]) := by
    intro s0 s1 z H locs ls h hP hS hl
    unfold f_X7_init_B141 at h
    obtain ⟨z, q, h⟩ := ho_bd h
    refine hw_pi X hP hS LX7 fX7_56 rfl rfl rfl q dX7_init_141 (fun H locs hP hS => ?_)
    refine lv_aload_n hx hb dX7_init_144 rfl (lv_at hl 0 rfl) ?_
    obtain ⟨_, hs, h⟩ := ho_bd h
    obtain ⟨z, q, h⟩ := ho_bd h
    refine hw_cv hS (hp_runV (As := []) (rest := []) X hP hS hl.1 LX7 (ho_is_s hs) kX7_60 ⟨m3_98, mp_20⟩ (c_X7_begin l G fu a0 _ _ q) rfl (Nat.le_of_ble_eq_true rfl) ⟨⟨Nat.le_of_ble_eq_true rfl, Nat.le_of_ble_eq_true rfl⟩, Nat.le_of_ble_eq_true rfl, Nat.le_of_ble_eq_true rfl⟩ dX7_init_145) (fun H locs hP hS => ?_)
    refine W.widen (k := 15) (n := 13577) (Nat.le_of_ble_eq_true rfl) (Nat.le_of_ble_eq_true rfl) ?_
    exact hw_vret X hP hS hr hlocks h dX7_init_148
  unfold f_X7_init at h
  refine lv_aload_n hx hb dX7_init_0 rfl (lv_at hl 0 rfl) ?_
  refine W.objInit hx hb X.2.2.1 (hp_use X.2.2.2.2.1 m3_95 _) (hp_use X.2.2.2.2.1 m1_19 _) (hp_use X.2.2.2.2.1 m1_20 _) rfl (by rw [X.2.2.2.1]; exact hl.1) rfl dX7_init_1 (Nat.le_of_ble_eq_true rfl) (Nat.le_of_ble_eq_true rfl) ?_
  refine W.eq (g2 := F0 m 4 ls []) rfl ?_
  refine lv_aload_n hx hb dX7_init_4 rfl (lv_at hl 0 rfl) ?_
  refine lv_iconst (v := 5) hx hb dX7_init_5 (by decide) ?_
  obtain ⟨⟨r1, z⟩, q, h⟩ := ho_bd h
  refine hw_nI X hP hS m1_63 (by decide) (Nat.le_of_ble_eq_true rfl) (Nat.le_of_ble_eq_true rfl) q dX7_init_6 (fun H hP hS => ?_)
  obtain ⟨z, q, h⟩ := ho_bd h
  refine hw_prF X hP hS LX7 fX7_7 rfl rfl hnm rfl rfl rfl q dX7_init_8 (fun H locs hP hS => ?_)
  refine lv_aload_n hx hb dX7_init_11 rfl (lv_at hl 0 rfl) ?_
  refine lv_bipush (v := 120) hx hb dX7_init_12 (by decide) ?_
  obtain ⟨⟨r2, z⟩, q, h⟩ := ho_bd h
  refine hw_nI X hP hS m1_63 (by decide) (Nat.le_of_ble_eq_true rfl) (Nat.le_of_ble_eq_true rfl) q dX7_init_14 (fun H hP hS => ?_)
  obtain ⟨z, q, h⟩ := ho_bd h
  refine hw_prF X hP hS LX7 fX7_13 rfl rfl hnm rfl rfl rfl q dX7_init_16 (fun H locs hP hS => ?_)
  refine lv_aload_n hx hb dX7_init_19 rfl (lv_at hl 0 rfl) ?_
  refine lv_bipush (v := 120) hx hb dX7_init_20 (by decide) ?_
  obtain ⟨⟨r3, z⟩, q, h⟩ := ho_bd h
  refine hw_nI X hP hS m1_63 (by decide) (Nat.le_of_ble_eq_true rfl) (Nat.le_of_ble_eq_true rfl) q dX7_init_22 (fun H hP hS => ?_)
  obtain ⟨z, q, h⟩ := ho_bd h
  refine hw_prF X hP hS LX7 fX7_16 rfl rfl hnm rfl rfl rfl q dX7_init_24 (fun H locs hP hS => ?_)
  refine lv_aload_n hx hb dX7_init_27 rfl (lv_at hl 0 rfl) ?_
  refine lv_bipush (v := 120) hx hb dX7_init_28 (by decide) ?_
  obtain ⟨⟨r4, z⟩, q, h⟩ := ho_bd h
  refine hw_nI X hP hS m1_63 (by decide) (Nat.le_of_ble_eq_true rfl) (Nat.le_of_ble_eq_true rfl) q dX7_init_30 (fun H hP hS => ?_)
  obtain ⟨z, q, h⟩ := ho_bd h
  refine hw_prF X hP hS LX7 fX7_19 rfl rfl hnm rfl rfl rfl q dX7_init_32 (fun H locs hP hS => ?_)
  refine lv_aload_n hx hb dX7_init_35 rfl (lv_at hl 0 rfl) ?_
  refine lv_iconst (v := 5) hx hb dX7_init_36 (by decide) ?_
  obtain ⟨⟨r5, z⟩, q, h⟩ := ho_bd h
  refine hw_nI X hP hS m1_63 (by decide) (Nat.le_of_ble_eq_true rfl) (Nat.le_of_ble_eq_true rfl) q dX7_init_37 (fun H hP hS => ?_)
  obtain ⟨z, q, h⟩ := ho_bd h
  refine hw_prF X hP hS LX7 fX7_22 rfl rfl hnm rfl rfl rfl q dX7_init_39 (fun H locs hP hS => ?_)
  refine lv_aload_n hx hb dX7_init_42 rfl (lv_at hl 0 rfl) ?_
  refine lv_iconst (v := 5) hx hb dX7_init_43 (by decide) ?_
  obtain ⟨⟨r6, z⟩, q, h⟩ := ho_bd h
  refine hw_nI X hP hS m1_63 (by decide) (Nat.le_of_ble_eq_true rfl) (Nat.le_of_ble_eq_true rfl) q dX7_init_44 (fun H hP hS => ?_)
  obtain ⟨z, q, h⟩ := ho_bd h
  refine hw_prF X hP hS LX7 fX7_25 rfl rfl hnm rfl rfl rfl q dX7_init_46 (fun H locs hP hS => ?_)
  refine lv_aload_n hx hb dX7_init_49 rfl (lv_at hl 0 rfl) ?_
  refine lv_bipush (v := 14) hx hb dX7_init_50 (by decide) ?_
  obtain ⟨⟨r7, z⟩, q, h⟩ := ho_bd h
  refine hw_nZ X hP hS m1_165 (by decide) (Nat.le_of_ble_eq_true rfl) (Nat.le_of_ble_eq_true rfl) q dX7_init_52 (fun H hP hS => ?_)
  obtain ⟨z, q, h⟩ := ho_bd h
  refine hw_prF X hP hS LX7 fX7_28 rfl rfl hnm rfl rfl rfl q dX7_init_54 (fun H locs hP hS => ?_)
  refine lv_aload_n hx hb dX7_init_57 rfl (lv_at hl 0 rfl) ?_
  refine lv_iconst (v := 4) hx hb dX7_init_58 (by decide) ?_
  obtain ⟨⟨r8, z⟩, q, h⟩ := ho_bd h
  refine hw_nI X hP hS m1_63 (by decide) (Nat.le_of_ble_eq_true rfl) (Nat.le_of_ble_eq_true rfl) q dX7_init_59 (fun H hP hS => ?_)
  obtain ⟨z, q, h⟩ := ho_bd h
  refine hw_prF X hP hS LX7 fX7_32 rfl rfl hnm rfl rfl rfl q dX7_init_61 (fun H locs hP hS => ?_)
  refine lv_aload_n hx hb dX7_init_64 rfl (lv_at hl 0 rfl) ?_
  refine lv_iconst (v := 4) hx hb dX7_init_65 (by decide) ?_
  obtain ⟨⟨r9, z⟩, q, h⟩ := ho_bd h
  refine hw_nI X hP hS m1_63 (by decide) (Nat.le_of_ble_eq_true rfl) (Nat.le_of_ble_eq_true rfl) q dX7_init_66 (fun H hP hS => ?_)
  obtain ⟨z, q, h⟩ := ho_bd h
  refine hw_prF X hP hS LX7 fX7_35 rfl rfl hnm rfl rfl rfl q dX7_init_68 (fun H locs hP hS => ?_)
  refine lv_aload_n hx hb dX7_init_71 rfl (lv_at hl 0 rfl) ?_
  refine lv_bipush (v := 20) hx hb dX7_init_72 (by decide) ?_
  obtain ⟨⟨r10, z⟩, q, h⟩ := ho_bd h
  refine hw_nI X hP hS m1_63 (by decide) (Nat.le_of_ble_eq_true rfl) (Nat.le_of_ble_eq_true rfl) q dX7_init_74 (fun H hP hS => ?_)
  obtain ⟨z, q, h⟩ := ho_bd h
  refine hw_prF X hP hS LX7 fX7_38 rfl rfl hnm rfl rfl rfl q dX7_init_76 (fun H locs hP hS => ?_)
  refine lv_aload_n hx hb dX7_init_79 rfl (lv_at hl 0 rfl) ?_
  refine lv_bipush (v := 20) hx hb dX7_init_80 (by decide) ?_
  obtain ⟨⟨r11, z⟩, q, h⟩ := ho_bd h
  refine hw_nI X hP hS m1_63 (by decide) (Nat.le_of_ble_eq_true rfl) (Nat.le_of_ble_eq_true rfl) q dX7_init_82 (fun H hP hS => ?_)
  obtain ⟨z, q, h⟩ := ho_bd h
  refine hw_prF X hP hS LX7 fX7_41 rfl rfl hnm rfl rfl rfl q dX7_init_84 (fun H locs hP hS => ?_)
  refine lv_aload_n hx hb dX7_init_87 rfl (lv_at hl 0 rfl) ?_
  refine lv_bipush (v := 120) hx hb dX7_init_88 (by decide) ?_
  obtain ⟨⟨r12, z⟩, q, h⟩ := ho_bd h
  refine hw_nI X hP hS m1_63 (by decide) (Nat.le_of_ble_eq_true rfl) (Nat.le_of_ble_eq_true rfl) q dX7_init_90 (fun H hP hS => ?_)
  obtain ⟨z, q, h⟩ := ho_bd h
  refine hw_prF X hP hS LX7 fX7_44 rfl rfl hnm rfl rfl rfl q dX7_init_92 (fun H locs hP hS => ?_)
  refine lv_aload_n hx hb dX7_init_95 rfl (lv_at hl 0 rfl) ?_
  refine lv_sipush (v := 600) hx hb dX7_init_96 (by decide) ?_
  obtain ⟨⟨r13, z⟩, q, h⟩ := ho_bd h
  refine hw_nI X hP hS m1_63 (by decide) (Nat.le_of_ble_eq_true rfl) (Nat.le_of_ble_eq_true rfl) q dX7_init_99 (fun H hP hS => ?_)
  obtain ⟨z, q, h⟩ := ho_bd h
  refine hw_prF X hP hS LX7 fX7_47 rfl rfl hnm rfl rfl rfl q dX7_init_101 (fun H locs hP hS => ?_)
  refine lv_aload_n hx hb dX7_init_104 rfl (lv_at hl 0 rfl) ?_
  refine lv_sipush (v := 12300) hx hb dX7_init_105 (by decide) ?_
  obtain ⟨⟨r14, z⟩, q, h⟩ := ho_bd h
  refine hw_nI X hP hS m1_63 (by decide) (Nat.le_of_ble_eq_true rfl) (Nat.le_of_ble_eq_true rfl) q dX7_init_108 (fun H hP hS => ?_)
  obtain ⟨z, q, h⟩ := ho_bd h
  refine hw_prF X hP hS LX7 fX7_50 rfl rfl hnm rfl rfl rfl q dX7_init_110 (fun H locs hP hS => ?_)
  refine lv_aload_n hx hb dX7_init_113 rfl (lv_at hl 0 rfl) ?_
  refine lv_bipush (v := 120) hx hb dX7_init_114 (by decide) ?_
  obtain ⟨⟨r15, z⟩, q, h⟩ := ho_bd h
  refine hw_nI X hP hS m1_63 (by decide) (Nat.le_of_ble_eq_true rfl) (Nat.le_of_ble_eq_true rfl) q dX7_init_116 (fun H hP hS => ?_)
  obtain ⟨z, q, h⟩ := ho_bd h
  refine hw_prF X hP hS LX7 fX7_53 rfl rfl hnm rfl rfl rfl q dX7_init_118 (fun H locs hP hS => ?_)
  refine lv_aload_n hx hb dX7_init_121 rfl (lv_at hl 0 rfl) ?_
  refine lv_iload_n hx hb dX7_init_122 rfl (lv_at hl 1 rfl) ?_
  refine lv_iconst (v := 2) hx hb dX7_init_123 (by decide) ?_
  refine lv_icmp_ge (tgt := 131) hx hb dX7_init_124 (by decide) (fun hc => ?_) (fun hc => ?_)
  · replace h := ho_ip hc h
    refine lv_iload_n hx hb dX7_init_131 rfl (lv_at hl 1 rfl) ?_
    refine lv_iconst (v := 5) hx hb dX7_init_132 (by decide) ?_
    refine lv_icmp_le (tgt := 140) hx hb dX7_init_133 (by decide) (fun hc => ?_) (fun hc => ?_)
    · replace h := ho_ip hc h
      refine lv_iload_n hx hb dX7_init_140 rfl (lv_at hl 1 rfl) ?_
      refine W.widen (k := 15) (n := 13577) (Nat.le_of_ble_eq_true rfl) (Nat.le_of_ble_eq_true rfl) ?_
      exact B141 x1 a0 z _ _ _ h hP hS (lv_sub hl [0, 1] rfl)
    · replace h := ho_in hc h
      refine lv_iconst (v := 5) hx hb dX7_init_136 (by decide) ?_
      refine lv_goto (tgt := 141) hx hb dX7_init_137 (by decide) ?_
      refine W.widen (k := 15) (n := 13577) (Nat.le_of_ble_eq_true rfl) (Nat.le_of_ble_eq_true rfl) ?_
      exact B141 5 a0 z _ _ _ h hP hS (lv_sub hl [0, 1] rfl)
  · replace h := ho_in hc h
    refine lv_iconst (v := 2) hx hb dX7_init_127 (by decide) ?_
    refine lv_goto (tgt := 141) hx hb dX7_init_128 (by decide) ?_
    refine W.widen (k := 15) (n := 13577) (Nat.le_of_ble_eq_true rfl) (Nat.le_of_ble_eq_true rfl) ?_
    exact B141 2 a0 z _ _ _ h hP hS (lv_sub hl [0, 1] rfl)
def f_X7_clear_B27 (fu : Nat) (a0 : Nat) (w1 : Int32) (z : hp_S) : Option (Int32 × hp_S) :=
  (ho_is 7 a0 z).bind fun _ =>
  (f_X7_begin fu a0 z).bind fun z =>
  some (w1, z)
def f_X7_clear_L4 (fu : Nat) (a0 : Nat) (kk : Int32 → hp_S → Option (Int32 × hp_S)) : Nat → Int32 → Int32 → hp_S → Option (Int32 × hp_S)
  | 0, _, _, _ => none
  | n + 1, w1, w2, z =>
    (ho_gi 7 a0 0 z).bind fun v1 =>
    if v1 ≤ w2 then (
      kk w1 z
    ) else (
      (ho_gr 7 a0 1 z).bind fun r2 =>
      (ho_li 1 r2 w2 z).bind fun v3 =>
      (ho_id (w1 + v3)).bind fun v4 =>
      (ho_id (w2 + 1)).bind fun v5 =>
      (f_X7_clear_L4 fu a0 kk n) v4 v5 z
    )
def f_X7_clear (fu : Nat) (a0 : Nat) (z : hp_S) : Option (Int32 × hp_S) :=
  f_X7_clear_L4 fu a0 (f_X7_clear_B27 fu a0) fu 0 0 z
set_option maxHeartbeats 4000000 in
set_option maxRecDepth 100000 in
theorem c_X7_clear (l : Launch) (G : hp_G) (fu : Nat) (a0 : Nat) (z : hp_S) (rq : Int32) (zq : hp_S) (h : f_X7_clear fu a0 z = some (rq, zq)) : hp_M l G yX7_clear cX7_clear 3 (some .int) 1 21 0 0 [.ref a0] z (hp_Qi G rq zq) := by
  refine hp_M.of (by decide) (Nat.le_of_ble_eq_true rfl) ?_
  intro p e s m below meth c X hr hlocks hnm hP hS ls hl
  have X : hp_C G cX7_clear RX7 3 p s m c := X
  have hl : lv_has ls 3 [(0, .ref a0)] := hl
  have hx := X.1
  have hb := X.2.1
  have B27 : ∀ (w1 : Int32) (z : hp_S) (H : Heap) (locs : List Loc) (ls : Array Slot), f_X7_clear_B27 fu a0 w1 z = some (rq, zq) → hp_P G z H → va_S (hp_A G) s.heap H locs → lv_has ls 3 [(0, .ref a0), (1, .int w1)] → W p l e (hp_rm 1 21 0 0) s m [.ref a0].toArray below meth c H locs 0 0 (MQ below (hp_Qi G rq zq) [.ref a0].toArray s 0 0 (hp_A G)) (F0 m 27 ls []) := by
    intro w1 z H locs ls h hP hS hl
    unfold f_X7_clear_B27 at h
    refine lv_aload_n hx hb dX7_clear_27 rfl (lv_at hl 0 rfl) ?_
    obtain ⟨_, hs, h⟩ := ho_bd h
    obtain ⟨z, q, h⟩ := ho_bd h
    refine hw_cv hS (hp_runV (As := []) (rest := []) X hP hS hl.1 LX7 (ho_is_s hs) kX7_60 ⟨m3_98, mp_20⟩ (c_X7_begin l G fu a0 _ _ q) rfl (Nat.le_of_ble_eq_true rfl) ⟨⟨Nat.le_of_ble_eq_true rfl, Nat.le_of_ble_eq_true rfl⟩, Nat.le_of_ble_eq_true rfl, Nat.le_of_ble_eq_true rfl⟩ dX7_clear_28) (fun H locs hP hS => ?_)
    refine lv_iload_n hx hb dX7_clear_31 rfl (lv_at hl 1 rfl) ?_
    exact hw_iret X hP hS hr hlocks h dX7_clear_32
  have L4 : ∀ (n4 : Nat) (w1 : Int32) (w2 : Int32) (z : hp_S) (H : Heap) (locs : List Loc) (ls : Array Slot), f_X7_clear_L4 fu a0 (f_X7_clear_B27 fu a0) n4 w1 w2 z = some (rq, zq) → hp_P G z H → va_S (hp_A G) s.heap H locs → lv_has ls 3 [(0, .ref a0), (1, .int w1), (2, .int w2)] → W p l e (hp_rm 1 21 0 0) s m [.ref a0].toArray below meth c H locs 0 0 (MQ below (hp_Qi G rq zq) [.ref a0].toArray s 0 0 (hp_A G)) (F0 m 4 ls []) := by
    intro n4
    induction n4 with
    | zero =>
      intro w1 w2 z H locs ls h
      exact nomatch (h : (none : Option (Int32 × hp_S)) = some (rq, zq))
    | succ n4 ih4 =>
      intro w1 w2 z H locs ls h hP hS hl
      rw [f_X7_clear_L4] at h
      refine lv_iload_n hx hb dX7_clear_4 rfl (lv_at hl 2 rfl) ?_
      refine lv_aload_n hx hb dX7_clear_5 rfl (lv_at hl 0 rfl) ?_
      obtain ⟨v1, q, h⟩ := ho_bd h
      refine hw_gi X hP LX7 fX7_56 rfl q dX7_clear_6 ?_
      refine lv_icmp_ge (tgt := 27) hx hb dX7_clear_9 (by decide) (fun hc => ?_) (fun hc => ?_)
      · replace h := ho_ip hc h
        exact B27 w1 z _ _ _ h hP hS (lv_sub hl [0, 1] rfl)
      · replace h := ho_in hc h
        refine lv_iload_n hx hb dX7_clear_12 rfl (lv_at hl 1 rfl) ?_
        refine lv_aload_n hx hb dX7_clear_13 rfl (lv_at hl 0 rfl) ?_
        obtain ⟨r2, q, h⟩ := ho_bd h
        refine hw_gr X hP LX7 fX7_7 rfl q dX7_clear_14 ?_
        refine lv_iload_n hx hb dX7_clear_17 rfl (lv_at hl 2 rfl) ?_
        obtain ⟨v3, q, h⟩ := ho_bd h
        refine hw_li X hP q dX7_clear_18 ?_
        refine lv_iadd hx hb dX7_clear_19 ?_
        obtain ⟨v4, q, h⟩ := ho_bd h
        refine hw_id q ?_
        refine lv_istore_n (lv' := [(1, .int v4), (0, .ref a0), (2, .int w2)]) hx hb dX7_clear_20 rfl hl (by decide) rfl (fun ls hl => ?_)
        obtain ⟨v5, q, h⟩ := ho_bd h
        refine lv_iinc (v := v5) (lv' := [(2, .int v5), (1, .int v4), (0, .ref a0)]) hx hb dX7_clear_21 hl (k := 2) rfl (Option.some.inj q) (by decide) rfl (fun ls hl => ?_)
        refine lv_goto (tgt := 4) hx hb dX7_clear_24 (by decide) ?_
        exact ih4 v4 v5 z _ _ _ h hP hS (lv_sub hl [2, 1, 0] rfl)
  unfold f_X7_clear at h
  refine lv_iconst (v := 0) hx hb dX7_clear_0 (by decide) ?_
  refine lv_istore_n (lv' := [(1, .int 0), (0, .ref a0)]) hx hb dX7_clear_1 rfl hl (by decide) rfl (fun ls hl => ?_)
  refine lv_iconst (v := 0) hx hb dX7_clear_2 (by decide) ?_
  refine lv_istore_n (lv' := [(2, .int 0), (1, .int 0), (0, .ref a0)]) hx hb dX7_clear_3 rfl hl (by decide) rfl (fun ls hl => ?_)
  exact L4 fu 0 0 z _ _ _ h hP hS (lv_sub hl [2, 1, 0] rfl)
def f_X7_isIn_B15 (fu : Nat) (x0 : Int32) (x1 : Int32) (x2 : Int32) (s0 : Int32) (z : hp_S) : Option (Int32 × hp_S) :=
  if vp_nar .boolean s0 = s0 then some (s0, z) else none
def f_X7_isIn_B14 (fu : Nat) (x0 : Int32) (x1 : Int32) (x2 : Int32) (z : hp_S) : Option (Int32 × hp_S) :=
  f_X7_isIn_B15 fu x0 x1 x2 0 z
def f_X7_isIn (fu : Nat) (x0 : Int32) (x1 : Int32) (x2 : Int32) (z : hp_S) : Option (Int32 × hp_S) :=
  if x0 < x1 then (
    f_X7_isIn_B14 fu x0 x1 x2  z
  ) else (
    if x2 < x0 then (
      f_X7_isIn_B14 fu x0 x1 x2  z
    ) else (
      f_X7_isIn_B15 fu x0 x1 x2 1 z
    )
  )
set_option maxHeartbeats 4000000 in
set_option maxRecDepth 100000 in
theorem c_X7_isIn (l : Launch) (G : hp_G) (fu : Nat) (x0 : Int32) (x1 : Int32) (x2 : Int32) (z : hp_S) (rq : Int32) (zq : hp_S) (h : f_X7_isIn fu x0 x1 x2 z = some (rq, zq)) : hp_M l G yX7_isIn cX7_isIn 3 (some .boolean) 0 0 0 0 [.int x0, .int x1, .int x2] z (hp_Qi G rq zq) := by
  refine hp_M.of (by decide) (Nat.le_of_ble_eq_true rfl) ?_
  intro p e s m below meth c X hr hlocks hnm hP hS ls hl
  have X : hp_C G cX7_isIn RX7 3 p s m c := X
  have hl : lv_has ls 3 [(0, .int x0), (1, .int x1), (2, .int x2)] := hl
  have hx := X.1
  have hb := X.2.1
  have B15 : ∀ (s0 : Int32) (z : hp_S) (H : Heap) (locs : List Loc) (ls : Array Slot), f_X7_isIn_B15 fu x0 x1 x2 s0 z = some (rq, zq) → hp_P G z H → va_S (hp_A G) s.heap H locs → lv_has ls 3 [(0, .int x0), (1, .int x1), (2, .int x2)] → W p l e (hp_rm 0 0 0 0) s m [.int x0, .int x1, .int x2].toArray below meth c H locs 0 0 (MQ below (hp_Qi G rq zq) [.int x0, .int x1, .int x2].toArray s 0 0 (hp_A G)) (F0 m 15 ls [.int s0]) := by
    intro s0 z H locs ls h hP hS hl
    unfold f_X7_isIn_B15 at h
    exact hw_zret X hP hS hr hlocks h dX7_isIn_15
  have B14 : ∀ (z : hp_S) (H : Heap) (locs : List Loc) (ls : Array Slot), f_X7_isIn_B14 fu x0 x1 x2 z = some (rq, zq) → hp_P G z H → va_S (hp_A G) s.heap H locs → lv_has ls 3 [(0, .int x0), (1, .int x1), (2, .int x2)] → W p l e (hp_rm 0 0 0 0) s m [.int x0, .int x1, .int x2].toArray below meth c H locs 0 0 (MQ below (hp_Qi G rq zq) [.int x0, .int x1, .int x2].toArray s 0 0 (hp_A G)) (F0 m 14 ls []) := by
    intro z H locs ls h hP hS hl
    unfold f_X7_isIn_B14 at h
    refine lv_iconst (v := 0) hx hb dX7_isIn_14 (by decide) ?_
    exact B15 0 z _ _ _ h hP hS (lv_sub hl [0, 1, 2] rfl)
  unfold f_X7_isIn at h
  refine lv_iload_n hx hb dX7_isIn_0 rfl (lv_at hl 0 rfl) ?_
  refine lv_iload_n hx hb dX7_isIn_1 rfl (lv_at hl 1 rfl) ?_
  refine lv_icmp_lt (tgt := 14) hx hb dX7_isIn_2 (by decide) (fun hc => ?_) (fun hc => ?_)
  · replace h := ho_ip hc h
    exact B14 z _ _ _ h hP hS (lv_sub hl [0, 1, 2] rfl)
  · replace h := ho_in hc h
    refine lv_iload_n hx hb dX7_isIn_5 rfl (lv_at hl 0 rfl) ?_
    refine lv_iload_n hx hb dX7_isIn_6 rfl (lv_at hl 2 rfl) ?_
    refine lv_icmp_gt (tgt := 14) hx hb dX7_isIn_7 (by decide) (fun hc => ?_) (fun hc => ?_)
    · replace h := ho_ip hc h
      exact B14 z _ _ _ h hP hS (lv_sub hl [0, 1, 2] rfl)
    · replace h := ho_in hc h
      refine lv_iconst (v := 1) hx hb dX7_isIn_10 (by decide) ?_
      refine lv_goto (tgt := 15) hx hb dX7_isIn_11 (by decide) ?_
      exact B15 1 z _ _ _ h hP hS (lv_sub hl [0, 1, 2] rfl)
def f_X7_isVoice (fu : Nat) (a0 : Nat) (x1 : Int32) (z : hp_S) : Option (Int32 × hp_S) :=
  (ho_gi 7 a0 0 z).bind fun v1 =>
  (f_X7_isIn fu x1 0 (v1 - 1) z).bind fun ⟨v2, z⟩ =>
  if vp_nar .boolean v2 = v2 then some (v2, z) else none
set_option maxHeartbeats 4000000 in
set_option maxRecDepth 100000 in
theorem c_X7_isVoice (l : Launch) (G : hp_G) (fu : Nat) (a0 : Nat) (x1 : Int32) (z : hp_S) (rq : Int32) (zq : hp_S) (h : f_X7_isVoice fu a0 x1 z = some (rq, zq)) : hp_M l G yX7_isVoice cX7_isVoice 2 (some .boolean) 1 22 0 0 [.ref a0, .int x1] z (hp_Qi G rq zq) := by
  refine hp_M.of (by decide) (Nat.le_of_ble_eq_true rfl) ?_
  intro p e s m below meth c X hr hlocks hnm hP hS ls hl
  have X : hp_C G cX7_isVoice RX7 2 p s m c := X
  have hl : lv_has ls 2 [(0, .ref a0), (1, .int x1)] := hl
  have hx := X.1
  have hb := X.2.1
  unfold f_X7_isVoice at h
  refine lv_iload_n hx hb dX7_isVoice_0 rfl (lv_at hl 1 rfl) ?_
  refine lv_iconst (v := 0) hx hb dX7_isVoice_1 (by decide) ?_
  refine lv_aload_n hx hb dX7_isVoice_2 rfl (lv_at hl 0 rfl) ?_
  obtain ⟨v1, q, h⟩ := ho_bd h
  refine hw_gi X hP LX7 fX7_56 rfl q dX7_isVoice_3 ?_
  refine lv_iconst (v := 1) hx hb dX7_isVoice_6 (by decide) ?_
  refine lv_isub hx hb dX7_isVoice_7 ?_
  obtain ⟨⟨v2, z⟩, q, h⟩ := ho_bd h
  refine hw_ci hS (hp_runS (As := [.int x1, .int 0, .int (v1 - 1)]) (rest := []) X hP hS hl.1 kX7_81 m3_183 (c_X7_isIn l G fu x1 0 (v1 - 1) _ _ _ q) rfl (Nat.le_of_ble_eq_true rfl) ⟨⟨Nat.le_of_ble_eq_true rfl, Nat.le_of_ble_eq_true rfl⟩, Nat.le_of_ble_eq_true rfl, Nat.le_of_ble_eq_true rfl⟩ dX7_isVoice_8) (fun H locs hP hS => ?_)
  exact hw_zret X hP hS hr hlocks h dX7_isVoice_11
def f_X7_add_B34 (fu : Nat) (a0 : Nat) (x1 : Int32) (x2 : Int32) (x3 : Int32) (x4 : Int32) (w5 : Int32) (z : hp_S) : Option (Int32 × hp_S) :=
  if w5 = 24 then (
    some ((-3), z)
  ) else (
    (ho_gr 7 a0 2 z).bind fun r3 =>
    (ho_si r3 ((24 * x1) + w5) x2 z).bind fun z =>
    (ho_gr 7 a0 3 z).bind fun r4 =>
    (ho_si r4 ((24 * x1) + w5) x3 z).bind fun z =>
    (ho_gr 7 a0 4 z).bind fun r5 =>
    (ho_si r5 ((24 * x1) + w5) x4 z).bind fun z =>
    (ho_gr 7 a0 1 z).bind fun r6 =>
    (ho_li 1 r6 x1 z).bind fun v7 =>
    (ho_si r6 x1 (v7 + 1) z).bind fun z =>
    some ((w5 + 1), z)
  )
def f_X7_add (fu : Nat) (a0 : Nat) (x1 : Int32) (x2 : Int32) (x3 : Int32) (x4 : Int32) (z : hp_S) : Option (Int32 × hp_S) :=
  (ho_gr 7 a0 1 z).bind fun r1 =>
  (ho_li 1 r1 x1 z).bind fun v2 =>
  if v2 ≤ 0 then (
    f_X7_add_B34 fu a0 x1 x2 x3 x4 v2 z
  ) else (
    (ho_gr 7 a0 2 z).bind fun r8 =>
    (ho_li 1 r8 (((24 * x1) + v2) - 1) z).bind fun v9 =>
    if v9 < x2 then (
      f_X7_add_B34 fu a0 x1 x2 x3 x4 v2 z
    ) else (
      some ((-4), z)
    )
  )
set_option maxHeartbeats 4000000 in
set_option maxRecDepth 100000 in
theorem c_X7_add (l : Launch) (G : hp_G) (fu : Nat) (a0 : Nat) (x1 : Int32) (x2 : Int32) (x3 : Int32) (x4 : Int32) (z : hp_S) (rq : Int32) (zq : hp_S) (h : f_X7_add fu a0 x1 x2 x3 x4 z = some (rq, zq)) : hp_M l G yX7_add cX7_add 6 (some .int) 0 0 0 0 [.ref a0, .int x1, .int x2, .int x3, .int x4] z (hp_Qi G rq zq) := by
  refine hp_M.of (by decide) (Nat.le_of_ble_eq_true rfl) ?_
  intro p e s m below meth c X hr hlocks hnm hP hS ls hl
  have X : hp_C G cX7_add RX7 6 p s m c := X
  have hl : lv_has ls 6 [(0, .ref a0), (1, .int x1), (2, .int x2), (3, .int x3), (4, .int x4)] := hl
  have hx := X.1
  have hb := X.2.1
  have B34 : ∀ (w5 : Int32) (z : hp_S) (H : Heap) (locs : List Loc) (ls : Array Slot), f_X7_add_B34 fu a0 x1 x2 x3 x4 w5 z = some (rq, zq) → hp_P G z H → va_S (hp_A G) s.heap H locs → lv_has ls 6 [(0, .ref a0), (1, .int x1), (2, .int x2), (3, .int x3), (4, .int x4), (5, .int w5)] → W p l e (hp_rm 0 0 0 0) s m [.ref a0, .int x1, .int x2, .int x3, .int x4].toArray below meth c H locs 0 0 (MQ below (hp_Qi G rq zq) [.ref a0, .int x1, .int x2, .int x3, .int x4].toArray s 0 0 (hp_A G)) (F0 m 34 ls []) := by
    intro w5 z H locs ls h hP hS hl
    unfold f_X7_add_B34 at h
    refine lv_iload hx hb dX7_add_34 (lv_at hl 5 rfl) ?_
    refine lv_bipush (v := 24) hx hb dX7_add_36 (by decide) ?_
    refine lv_icmp_ne (tgt := 44) hx hb dX7_add_38 (by decide) (fun hc => ?_) (fun hc => ?_)
    · replace h := ho_in hc h
      refine lv_aload_n hx hb dX7_add_44 rfl (lv_at hl 0 rfl) ?_
      obtain ⟨r3, q, h⟩ := ho_bd h
      refine hw_gr X hP LX7 fX7_13 rfl q dX7_add_45 ?_
      refine lv_bipush (v := 24) hx hb dX7_add_48 (by decide) ?_
      refine lv_iload_n hx hb dX7_add_50 rfl (lv_at hl 1 rfl) ?_
      refine lv_imul hx hb dX7_add_51 ?_
      refine lv_iload hx hb dX7_add_52 (lv_at hl 5 rfl) ?_
      refine lv_iadd hx hb dX7_add_54 ?_
      refine lv_iload_n hx hb dX7_add_55 rfl (lv_at hl 2 rfl) ?_
      obtain ⟨z, q, h⟩ := ho_bd h
      refine hw_si X hP hS q dX7_add_56 (fun H locs hP hS => ?_)
      refine lv_aload_n hx hb dX7_add_57 rfl (lv_at hl 0 rfl) ?_
      obtain ⟨r4, q, h⟩ := ho_bd h
      refine hw_gr X hP LX7 fX7_16 rfl q dX7_add_58 ?_
      refine lv_bipush (v := 24) hx hb dX7_add_61 (by decide) ?_
      refine lv_iload_n hx hb dX7_add_63 rfl (lv_at hl 1 rfl) ?_
      refine lv_imul hx hb dX7_add_64 ?_
      refine lv_iload hx hb dX7_add_65 (lv_at hl 5 rfl) ?_
      refine lv_iadd hx hb dX7_add_67 ?_
      refine lv_iload_n hx hb dX7_add_68 rfl (lv_at hl 3 rfl) ?_
      obtain ⟨z, q, h⟩ := ho_bd h
      refine hw_si X hP hS q dX7_add_69 (fun H locs hP hS => ?_)
      refine lv_aload_n hx hb dX7_add_70 rfl (lv_at hl 0 rfl) ?_
      obtain ⟨r5, q, h⟩ := ho_bd h
      refine hw_gr X hP LX7 fX7_19 rfl q dX7_add_71 ?_
      refine lv_bipush (v := 24) hx hb dX7_add_74 (by decide) ?_
      refine lv_iload_n hx hb dX7_add_76 rfl (lv_at hl 1 rfl) ?_
      refine lv_imul hx hb dX7_add_77 ?_
      refine lv_iload hx hb dX7_add_78 (lv_at hl 5 rfl) ?_
      refine lv_iadd hx hb dX7_add_80 ?_
      refine lv_iload hx hb dX7_add_81 (lv_at hl 4 rfl) ?_
      obtain ⟨z, q, h⟩ := ho_bd h
      refine hw_si X hP hS q dX7_add_83 (fun H locs hP hS => ?_)
      refine lv_aload_n hx hb dX7_add_84 rfl (lv_at hl 0 rfl) ?_
      obtain ⟨r6, q, h⟩ := ho_bd h
      refine hw_gr X hP LX7 fX7_7 rfl q dX7_add_85 ?_
      refine lv_iload_n hx hb dX7_add_88 rfl (lv_at hl 1 rfl) ?_
      refine lv_dup2_11 hx hb dX7_add_89 rfl rfl ?_
      obtain ⟨v7, q, h⟩ := ho_bd h
      refine hw_li X hP q dX7_add_90 ?_
      refine lv_iconst (v := 1) hx hb dX7_add_91 (by decide) ?_
      refine lv_iadd hx hb dX7_add_92 ?_
      obtain ⟨z, q, h⟩ := ho_bd h
      refine hw_si X hP hS q dX7_add_93 (fun H locs hP hS => ?_)
      refine lv_iload hx hb dX7_add_94 (lv_at hl 5 rfl) ?_
      refine lv_iconst (v := 1) hx hb dX7_add_96 (by decide) ?_
      refine lv_iadd hx hb dX7_add_97 ?_
      exact hw_iret X hP hS hr hlocks h dX7_add_98
    · replace h := ho_ip hc h
      refine lv_bipush (v := (-3)) hx hb dX7_add_41 (by decide) ?_
      exact hw_iret X hP hS hr hlocks h dX7_add_43
  unfold f_X7_add at h
  refine lv_aload_n hx hb dX7_add_0 rfl (lv_at hl 0 rfl) ?_
  obtain ⟨r1, q, h⟩ := ho_bd h
  refine hw_gr X hP LX7 fX7_7 rfl q dX7_add_1 ?_
  refine lv_iload_n hx hb dX7_add_4 rfl (lv_at hl 1 rfl) ?_
  obtain ⟨v2, q, h⟩ := ho_bd h
  refine hw_li X hP q dX7_add_5 ?_
  refine lv_istore (lv' := [(5, .int v2), (0, .ref a0), (1, .int x1), (2, .int x2), (3, .int x3), (4, .int x4)]) hx hb dX7_add_6 hl (by decide) rfl (fun ls hl => ?_)
  refine lv_iload hx hb dX7_add_8 (lv_at hl 0 rfl) ?_
  refine lv_if_le (tgt := 34) hx hb dX7_add_10 (by decide) (fun hc => ?_) (fun hc => ?_)
  · replace h := ho_ip hc h
    exact B34 v2 z _ _ _ h hP hS (lv_sub hl [1, 2, 3, 4, 5, 0] rfl)
  · replace h := ho_in hc h
    refine lv_aload_n hx hb dX7_add_13 rfl (lv_at hl 1 rfl) ?_
    obtain ⟨r8, q, h⟩ := ho_bd h
    refine hw_gr X hP LX7 fX7_13 rfl q dX7_add_14 ?_
    refine lv_bipush (v := 24) hx hb dX7_add_17 (by decide) ?_
    refine lv_iload_n hx hb dX7_add_19 rfl (lv_at hl 2 rfl) ?_
    refine lv_imul hx hb dX7_add_20 ?_
    refine lv_iload hx hb dX7_add_21 (lv_at hl 0 rfl) ?_
    refine lv_iadd hx hb dX7_add_23 ?_
    refine lv_iconst (v := 1) hx hb dX7_add_24 (by decide) ?_
    refine lv_isub hx hb dX7_add_25 ?_
    obtain ⟨v9, q, h⟩ := ho_bd h
    refine hw_li X hP q dX7_add_26 ?_
    refine lv_iload_n hx hb dX7_add_27 rfl (lv_at hl 3 rfl) ?_
    refine lv_icmp_lt (tgt := 34) hx hb dX7_add_28 (by decide) (fun hc => ?_) (fun hc => ?_)
    · replace h := ho_ip hc h
      exact B34 v2 z _ _ _ h hP hS (lv_sub hl [1, 2, 3, 4, 5, 0] rfl)
    · replace h := ho_in hc h
      refine lv_bipush (v := (-4)) hx hb dX7_add_31 (by decide) ?_
      exact hw_iret X hP hS hr hlocks h dX7_add_33
def f_X7_note_B66 (fu : Nat) (a0 : Nat) (x1 : Int32) (x2 : Int32) (x3 : Int32) (x4 : Int32) (s0 : Int32) (z : hp_S) : Option (Int32 × hp_S) :=
  some (s0, z)
def f_X7_note_B45 (fu : Nat) (a0 : Nat) (x1 : Int32) (x2 : Int32) (x3 : Int32) (x4 : Int32) (s0 : Int32) (z : hp_S) : Option (Int32 × hp_S) :=
  if s0 = 0 then (
    f_X7_note_B66 fu a0 x1 x2 x3 x4 (-2) z
  ) else (
    (ho_is 7 a0 z).bind fun _ =>
    (f_X7_add fu a0 x1 x2 x3 x4 z).bind fun ⟨v2, z⟩ =>
    f_X7_note_B66 fu a0 x1 x2 x3 x4 v2 z
  )
def f_X7_note_B44 (fu : Nat) (a0 : Nat) (x1 : Int32) (x2 : Int32) (x3 : Int32) (x4 : Int32) (z : hp_S) : Option (Int32 × hp_S) :=
  f_X7_note_B45 fu a0 x1 x2 x3 x4 0 z
def f_X7_note (fu : Nat) (a0 : Nat) (x1 : Int32) (x2 : Int32) (x3 : Int32) (x4 : Int32) (z : hp_S) : Option (Int32 × hp_S) :=
  (ho_is 7 a0 z).bind fun _ =>
  (f_X7_isVoice fu a0 x1 z).bind fun ⟨v1, z⟩ =>
  if v1 = 0 then (
    f_X7_note_B44 fu a0 x1 x2 x3 x4  z
  ) else (
    (f_X7_isIn fu x2 0 999 z).bind fun ⟨v3, z⟩ =>
    if v3 = 0 then (
      f_X7_note_B44 fu a0 x1 x2 x3 x4  z
    ) else (
      (f_X7_isIn fu x3 0 55 z).bind fun ⟨v4, z⟩ =>
      if v4 = 0 then (
        f_X7_note_B44 fu a0 x1 x2 x3 x4  z
      ) else (
        (f_X7_isIn fu x4 (-2) 2 z).bind fun ⟨v5, z⟩ =>
        if v5 = 0 then (
          f_X7_note_B44 fu a0 x1 x2 x3 x4  z
        ) else (
          f_X7_note_B45 fu a0 x1 x2 x3 x4 1 z
        )
      )
    )
  )
set_option maxHeartbeats 4000000 in
set_option maxRecDepth 100000 in
theorem c_X7_note (l : Launch) (G : hp_G) (fu : Nat) (a0 : Nat) (x1 : Int32) (x2 : Int32) (x3 : Int32) (x4 : Int32) (z : hp_S) (rq : Int32) (zq : hp_S) (h : f_X7_note fu a0 x1 x2 x3 x4 z = some (rq, zq)) : hp_M l G yX7_note cX7_note 6 (some .int) 2 43 0 0 [.ref a0, .int x1, .int x2, .int x3, .int x4] z (hp_Qi G rq zq) := by
  refine hp_M.of (by decide) (Nat.le_of_ble_eq_true rfl) ?_
  intro p e s m below meth c X hr hlocks hnm hP hS ls hl
  have X : hp_C G cX7_note RX7 6 p s m c := X
  have hl : lv_has ls 6 [(0, .ref a0), (1, .int x1), (2, .int x2), (3, .int x3), (4, .int x4)] := hl
  have hx := X.1
  have hb := X.2.1
  have B66 : ∀ (s0 : Int32) (z : hp_S) (H : Heap) (locs : List Loc) (ls : Array Slot), f_X7_note_B66 fu a0 x1 x2 x3 x4 s0 z = some (rq, zq) → hp_P G z H → va_S (hp_A G) s.heap H locs → lv_has ls 6 [(0, .ref a0), (1, .int x1), (2, .int x2), (3, .int x3), (4, .int x4)] → W p l e (hp_rm 2 43 0 0) s m [.ref a0, .int x1, .int x2, .int x3, .int x4].toArray below meth c H locs 0 0 (MQ below (hp_Qi G rq zq) [.ref a0, .int x1, .int x2, .int x3, .int x4].toArray s 0 0 (hp_A G)) (F0 m 66 ls [.int s0]) := by
    intro s0 z H locs ls h hP hS hl
    unfold f_X7_note_B66 at h
    exact hw_iret X hP hS hr hlocks h dX7_note_66
  have B45 : ∀ (s0 : Int32) (z : hp_S) (H : Heap) (locs : List Loc) (ls : Array Slot), f_X7_note_B45 fu a0 x1 x2 x3 x4 s0 z = some (rq, zq) → hp_P G z H → va_S (hp_A G) s.heap H locs → lv_has ls 6 [(0, .ref a0), (1, .int x1), (2, .int x2), (3, .int x3), (4, .int x4)] → W p l e (hp_rm 2 43 0 0) s m [.ref a0, .int x1, .int x2, .int x3, .int x4].toArray below meth c H locs 0 0 (MQ below (hp_Qi G rq zq) [.ref a0, .int x1, .int x2, .int x3, .int x4].toArray s 0 0 (hp_A G)) (F0 m 45 ls [.int s0]) := by
    intro s0 z H locs ls h hP hS hl
    unfold f_X7_note_B45 at h
    refine lv_istore (lv' := [(5, .int s0), (0, .ref a0), (1, .int x1), (2, .int x2), (3, .int x3), (4, .int x4)]) hx hb dX7_note_45 hl (by decide) rfl (fun ls hl => ?_)
    refine lv_iload hx hb dX7_note_47 (lv_at hl 0 rfl) ?_
    refine lv_if_eq (tgt := 64) hx hb dX7_note_49 (by decide) (fun hc => ?_) (fun hc => ?_)
    · replace h := ho_ip hc h
      refine lv_bipush (v := (-2)) hx hb dX7_note_64 (by decide) ?_
      exact B66 (-2) z _ _ _ h hP hS (lv_sub hl [1, 2, 3, 4, 5] rfl)
    · replace h := ho_in hc h
      refine lv_aload_n hx hb dX7_note_52 rfl (lv_at hl 1 rfl) ?_
      refine lv_iload_n hx hb dX7_note_53 rfl (lv_at hl 2 rfl) ?_
      refine lv_iload_n hx hb dX7_note_54 rfl (lv_at hl 3 rfl) ?_
      refine lv_iload_n hx hb dX7_note_55 rfl (lv_at hl 4 rfl) ?_
      refine lv_iload hx hb dX7_note_56 (lv_at hl 5 rfl) ?_
      obtain ⟨_, hs, h⟩ := ho_bd h
      obtain ⟨⟨v2, z⟩, q, h⟩ := ho_bd h
      refine hw_ci hS (hp_runV (As := [.int x1, .int x2, .int x3, .int x4]) (rest := []) X hP hS hl.1 LX7 (ho_is_s hs) kX7_89 ⟨m3_187, mp_22⟩ (c_X7_add l G fu a0 x1 x2 x3 x4 _ _ _ q) rfl (Nat.le_of_ble_eq_true rfl) ⟨⟨Nat.le_of_ble_eq_true rfl, Nat.le_of_ble_eq_true rfl⟩, Nat.le_of_ble_eq_true rfl, Nat.le_of_ble_eq_true rfl⟩ dX7_note_58) (fun H locs hP hS => ?_)
      refine lv_goto (tgt := 66) hx hb dX7_note_61 (by decide) ?_
      exact B66 v2 z _ _ _ h hP hS (lv_sub hl [1, 2, 3, 4, 5] rfl)
  have B44 : ∀ (z : hp_S) (H : Heap) (locs : List Loc) (ls : Array Slot), f_X7_note_B44 fu a0 x1 x2 x3 x4 z = some (rq, zq) → hp_P G z H → va_S (hp_A G) s.heap H locs → lv_has ls 6 [(0, .ref a0), (1, .int x1), (2, .int x2), (3, .int x3), (4, .int x4)] → W p l e (hp_rm 2 43 0 0) s m [.ref a0, .int x1, .int x2, .int x3, .int x4].toArray below meth c H locs 0 0 (MQ below (hp_Qi G rq zq) [.ref a0, .int x1, .int x2, .int x3, .int x4].toArray s 0 0 (hp_A G)) (F0 m 44 ls []) := by
    intro z H locs ls h hP hS hl
    unfold f_X7_note_B44 at h
    refine lv_iconst (v := 0) hx hb dX7_note_44 (by decide) ?_
    exact B45 0 z _ _ _ h hP hS (lv_sub hl [0, 1, 2, 3, 4] rfl)
  unfold f_X7_note at h
  refine lv_aload_n hx hb dX7_note_0 rfl (lv_at hl 0 rfl) ?_
  refine lv_iload_n hx hb dX7_note_1 rfl (lv_at hl 1 rfl) ?_
  obtain ⟨_, hs, h⟩ := ho_bd h
  obtain ⟨⟨v1, z⟩, q, h⟩ := ho_bd h
  refine hw_ci hS (hp_runV (As := [.int x1]) (rest := []) X hP hS hl.1 LX7 (ho_is_s hs) kX7_85 ⟨m3_180, mp_21⟩ (c_X7_isVoice l G fu a0 x1 _ _ _ q) rfl (Nat.le_of_ble_eq_true rfl) ⟨⟨Nat.le_of_ble_eq_true rfl, Nat.le_of_ble_eq_true rfl⟩, Nat.le_of_ble_eq_true rfl, Nat.le_of_ble_eq_true rfl⟩ dX7_note_2) (fun H locs hP hS => ?_)
  refine lv_if_eq (tgt := 44) hx hb dX7_note_5 (by decide) (fun hc => ?_) (fun hc => ?_)
  · replace h := ho_ip hc h
    exact B44 z _ _ _ h hP hS (lv_sub hl [0, 1, 2, 3, 4] rfl)
  · replace h := ho_in hc h
    refine lv_iload_n hx hb dX7_note_8 rfl (lv_at hl 2 rfl) ?_
    refine lv_iconst (v := 0) hx hb dX7_note_9 (by decide) ?_
    refine lv_sipush (v := 999) hx hb dX7_note_10 (by decide) ?_
    obtain ⟨⟨v3, z⟩, q, h⟩ := ho_bd h
    refine hw_ci hS (hp_runS (As := [.int x2, .int 0, .int 999]) (rest := []) X hP hS hl.1 kX7_81 m3_183 (c_X7_isIn l G fu x2 0 999 _ _ _ q) rfl (Nat.le_of_ble_eq_true rfl) ⟨⟨Nat.le_of_ble_eq_true rfl, Nat.le_of_ble_eq_true rfl⟩, Nat.le_of_ble_eq_true rfl, Nat.le_of_ble_eq_true rfl⟩ dX7_note_13) (fun H locs hP hS => ?_)
    refine lv_if_eq (tgt := 44) hx hb dX7_note_16 (by decide) (fun hc => ?_) (fun hc => ?_)
    · replace h := ho_ip hc h
      exact B44 z _ _ _ h hP hS (lv_sub hl [0, 1, 2, 3, 4] rfl)
    · replace h := ho_in hc h
      refine lv_iload_n hx hb dX7_note_19 rfl (lv_at hl 3 rfl) ?_
      refine lv_iconst (v := 0) hx hb dX7_note_20 (by decide) ?_
      refine lv_bipush (v := 55) hx hb dX7_note_21 (by decide) ?_
      obtain ⟨⟨v4, z⟩, q, h⟩ := ho_bd h
      refine hw_ci hS (hp_runS (As := [.int x3, .int 0, .int 55]) (rest := []) X hP hS hl.1 kX7_81 m3_183 (c_X7_isIn l G fu x3 0 55 _ _ _ q) rfl (Nat.le_of_ble_eq_true rfl) ⟨⟨Nat.le_of_ble_eq_true rfl, Nat.le_of_ble_eq_true rfl⟩, Nat.le_of_ble_eq_true rfl, Nat.le_of_ble_eq_true rfl⟩ dX7_note_23) (fun H locs hP hS => ?_)
      refine lv_if_eq (tgt := 44) hx hb dX7_note_26 (by decide) (fun hc => ?_) (fun hc => ?_)
      · replace h := ho_ip hc h
        exact B44 z _ _ _ h hP hS (lv_sub hl [0, 1, 2, 3, 4] rfl)
      · replace h := ho_in hc h
        refine lv_iload hx hb dX7_note_29 (lv_at hl 4 rfl) ?_
        refine lv_bipush (v := (-2)) hx hb dX7_note_31 (by decide) ?_
        refine lv_iconst (v := 2) hx hb dX7_note_33 (by decide) ?_
        obtain ⟨⟨v5, z⟩, q, h⟩ := ho_bd h
        refine hw_ci hS (hp_runS (As := [.int x4, .int (-2), .int 2]) (rest := []) X hP hS hl.1 kX7_81 m3_183 (c_X7_isIn l G fu x4 (-2) 2 _ _ _ q) rfl (Nat.le_of_ble_eq_true rfl) ⟨⟨Nat.le_of_ble_eq_true rfl, Nat.le_of_ble_eq_true rfl⟩, Nat.le_of_ble_eq_true rfl, Nat.le_of_ble_eq_true rfl⟩ dX7_note_34) (fun H locs hP hS => ?_)
        refine lv_if_eq (tgt := 44) hx hb dX7_note_37 (by decide) (fun hc => ?_) (fun hc => ?_)
        · replace h := ho_ip hc h
          exact B44 z _ _ _ h hP hS (lv_sub hl [0, 1, 2, 3, 4] rfl)
        · replace h := ho_in hc h
          refine lv_iconst (v := 1) hx hb dX7_note_40 (by decide) ?_
          refine lv_goto (tgt := 45) hx hb dX7_note_41 (by decide) ?_
          exact B45 1 z _ _ _ h hP hS (lv_sub hl [0, 1, 2, 3, 4] rfl)
def f_X7_rest_B32 (fu : Nat) (a0 : Nat) (x1 : Int32) (x2 : Int32) (s0 : Int32) (z : hp_S) : Option (Int32 × hp_S) :=
  some (s0, z)
def f_X7_rest_B30 (fu : Nat) (a0 : Nat) (x1 : Int32) (x2 : Int32) (z : hp_S) : Option (Int32 × hp_S) :=
  f_X7_rest_B32 fu a0 x1 x2 (-2) z
def f_X7_rest (fu : Nat) (a0 : Nat) (x1 : Int32) (x2 : Int32) (z : hp_S) : Option (Int32 × hp_S) :=
  (ho_is 7 a0 z).bind fun _ =>
  (f_X7_isVoice fu a0 x1 z).bind fun ⟨v1, z⟩ =>
  if v1 = 0 then (
    f_X7_rest_B30 fu a0 x1 x2  z
  ) else (
    (f_X7_isIn fu x2 0 999 z).bind fun ⟨v2, z⟩ =>
    if v2 = 0 then (
      f_X7_rest_B30 fu a0 x1 x2  z
    ) else (
      (ho_is 7 a0 z).bind fun _ =>
      (f_X7_add fu a0 x1 x2 (-1) 0 z).bind fun ⟨v3, z⟩ =>
      f_X7_rest_B32 fu a0 x1 x2 v3 z
    )
  )
set_option maxHeartbeats 4000000 in
set_option maxRecDepth 100000 in
theorem c_X7_rest (l : Launch) (G : hp_G) (fu : Nat) (a0 : Nat) (x1 : Int32) (x2 : Int32) (z : hp_S) (rq : Int32) (zq : hp_S) (h : f_X7_rest fu a0 x1 x2 z = some (rq, zq)) : hp_M l G yX7_rest cX7_rest 3 (some .int) 2 43 0 0 [.ref a0, .int x1, .int x2] z (hp_Qi G rq zq) := by
  refine hp_M.of (by decide) (Nat.le_of_ble_eq_true rfl) ?_
  intro p e s m below meth c X hr hlocks hnm hP hS ls hl
  have X : hp_C G cX7_rest RX7 3 p s m c := X
  have hl : lv_has ls 3 [(0, .ref a0), (1, .int x1), (2, .int x2)] := hl
  have hx := X.1
  have hb := X.2.1
  have B32 : ∀ (s0 : Int32) (z : hp_S) (H : Heap) (locs : List Loc) (ls : Array Slot), f_X7_rest_B32 fu a0 x1 x2 s0 z = some (rq, zq) → hp_P G z H → va_S (hp_A G) s.heap H locs → lv_has ls 3 [(0, .ref a0), (1, .int x1), (2, .int x2)] → W p l e (hp_rm 2 43 0 0) s m [.ref a0, .int x1, .int x2].toArray below meth c H locs 0 0 (MQ below (hp_Qi G rq zq) [.ref a0, .int x1, .int x2].toArray s 0 0 (hp_A G)) (F0 m 32 ls [.int s0]) := by
    intro s0 z H locs ls h hP hS hl
    unfold f_X7_rest_B32 at h
    exact hw_iret X hP hS hr hlocks h dX7_rest_32
  have B30 : ∀ (z : hp_S) (H : Heap) (locs : List Loc) (ls : Array Slot), f_X7_rest_B30 fu a0 x1 x2 z = some (rq, zq) → hp_P G z H → va_S (hp_A G) s.heap H locs → lv_has ls 3 [(0, .ref a0), (1, .int x1), (2, .int x2)] → W p l e (hp_rm 2 43 0 0) s m [.ref a0, .int x1, .int x2].toArray below meth c H locs 0 0 (MQ below (hp_Qi G rq zq) [.ref a0, .int x1, .int x2].toArray s 0 0 (hp_A G)) (F0 m 30 ls []) := by
    intro z H locs ls h hP hS hl
    unfold f_X7_rest_B30 at h
    refine lv_bipush (v := (-2)) hx hb dX7_rest_30 (by decide) ?_
    exact B32 (-2) z _ _ _ h hP hS (lv_sub hl [0, 1, 2] rfl)
  unfold f_X7_rest at h
  refine lv_aload_n hx hb dX7_rest_0 rfl (lv_at hl 0 rfl) ?_
  refine lv_iload_n hx hb dX7_rest_1 rfl (lv_at hl 1 rfl) ?_
  obtain ⟨_, hs, h⟩ := ho_bd h
  obtain ⟨⟨v1, z⟩, q, h⟩ := ho_bd h
  refine hw_ci hS (hp_runV (As := [.int x1]) (rest := []) X hP hS hl.1 LX7 (ho_is_s hs) kX7_85 ⟨m3_180, mp_21⟩ (c_X7_isVoice l G fu a0 x1 _ _ _ q) rfl (Nat.le_of_ble_eq_true rfl) ⟨⟨Nat.le_of_ble_eq_true rfl, Nat.le_of_ble_eq_true rfl⟩, Nat.le_of_ble_eq_true rfl, Nat.le_of_ble_eq_true rfl⟩ dX7_rest_2) (fun H locs hP hS => ?_)
  refine lv_if_eq (tgt := 30) hx hb dX7_rest_5 (by decide) (fun hc => ?_) (fun hc => ?_)
  · replace h := ho_ip hc h
    exact B30 z _ _ _ h hP hS (lv_sub hl [0, 1, 2] rfl)
  · replace h := ho_in hc h
    refine lv_iload_n hx hb dX7_rest_8 rfl (lv_at hl 2 rfl) ?_
    refine lv_iconst (v := 0) hx hb dX7_rest_9 (by decide) ?_
    refine lv_sipush (v := 999) hx hb dX7_rest_10 (by decide) ?_
    obtain ⟨⟨v2, z⟩, q, h⟩ := ho_bd h
    refine hw_ci hS (hp_runS (As := [.int x2, .int 0, .int 999]) (rest := []) X hP hS hl.1 kX7_81 m3_183 (c_X7_isIn l G fu x2 0 999 _ _ _ q) rfl (Nat.le_of_ble_eq_true rfl) ⟨⟨Nat.le_of_ble_eq_true rfl, Nat.le_of_ble_eq_true rfl⟩, Nat.le_of_ble_eq_true rfl, Nat.le_of_ble_eq_true rfl⟩ dX7_rest_13) (fun H locs hP hS => ?_)
    refine lv_if_eq (tgt := 30) hx hb dX7_rest_16 (by decide) (fun hc => ?_) (fun hc => ?_)
    · replace h := ho_ip hc h
      exact B30 z _ _ _ h hP hS (lv_sub hl [0, 1, 2] rfl)
    · replace h := ho_in hc h
      refine lv_aload_n hx hb dX7_rest_19 rfl (lv_at hl 0 rfl) ?_
      refine lv_iload_n hx hb dX7_rest_20 rfl (lv_at hl 1 rfl) ?_
      refine lv_iload_n hx hb dX7_rest_21 rfl (lv_at hl 2 rfl) ?_
      refine lv_iconst (v := (-1)) hx hb dX7_rest_22 (by decide) ?_
      refine lv_iconst (v := 0) hx hb dX7_rest_23 (by decide) ?_
      obtain ⟨_, hs, h⟩ := ho_bd h
      obtain ⟨⟨v3, z⟩, q, h⟩ := ho_bd h
      refine hw_ci hS (hp_runV (As := [.int x1, .int x2, .int (-1), .int 0]) (rest := []) X hP hS hl.1 LX7 (ho_is_s hs) kX7_89 ⟨m3_187, mp_22⟩ (c_X7_add l G fu a0 x1 x2 (-1) 0 _ _ _ q) rfl (Nat.le_of_ble_eq_true rfl) ⟨⟨Nat.le_of_ble_eq_true rfl, Nat.le_of_ble_eq_true rfl⟩, Nat.le_of_ble_eq_true rfl, Nat.le_of_ble_eq_true rfl⟩ dX7_rest_24) (fun H locs hP hS => ?_)
      refine lv_goto (tgt := 32) hx hb dX7_rest_27 (by decide) ?_
      exact B32 v3 z _ _ _ h hP hS (lv_sub hl [0, 1, 2] rfl)
def f_X7_take (fu : Nat) (a0 : Nat) (x1 : Int32) (z : hp_S) : Option (Int32 × hp_S) :=
  (ho_is 7 a0 z).bind fun _ =>
  (f_X7_isVoice fu a0 x1 z).bind fun ⟨v1, z⟩ =>
  if v1 = 0 then (
    some ((-2), z)
  ) else (
    (ho_gr 7 a0 1 z).bind fun r2 =>
    (ho_li 1 r2 x1 z).bind fun v3 =>
    if v3 = 0 then (
      some ((-1), z)
    ) else (
      (ho_gr 7 a0 1 z).bind fun r4 =>
      (ho_li 1 r4 x1 z).bind fun v5 =>
      (ho_si r4 x1 (v5 - 1) z).bind fun z =>
      (ho_gr 7 a0 1 z).bind fun r6 =>
      (ho_li 1 r6 x1 z).bind fun v7 =>
      some (v7, z)
    )
  )
set_option maxHeartbeats 4000000 in
set_option maxRecDepth 100000 in
theorem c_X7_take (l : Launch) (G : hp_G) (fu : Nat) (a0 : Nat) (x1 : Int32) (z : hp_S) (rq : Int32) (zq : hp_S) (h : f_X7_take fu a0 x1 z = some (rq, zq)) : hp_M l G yX7_take cX7_take 2 (some .int) 2 43 0 0 [.ref a0, .int x1] z (hp_Qi G rq zq) := by
  refine hp_M.of (by decide) (Nat.le_of_ble_eq_true rfl) ?_
  intro p e s m below meth c X hr hlocks hnm hP hS ls hl
  have X : hp_C G cX7_take RX7 2 p s m c := X
  have hl : lv_has ls 2 [(0, .ref a0), (1, .int x1)] := hl
  have hx := X.1
  have hb := X.2.1
  unfold f_X7_take at h
  refine lv_aload_n hx hb dX7_take_0 rfl (lv_at hl 0 rfl) ?_
  refine lv_iload_n hx hb dX7_take_1 rfl (lv_at hl 1 rfl) ?_
  obtain ⟨_, hs, h⟩ := ho_bd h
  obtain ⟨⟨v1, z⟩, q, h⟩ := ho_bd h
  refine hw_ci hS (hp_runV (As := [.int x1]) (rest := []) X hP hS hl.1 LX7 (ho_is_s hs) kX7_85 ⟨m3_180, mp_21⟩ (c_X7_isVoice l G fu a0 x1 _ _ _ q) rfl (Nat.le_of_ble_eq_true rfl) ⟨⟨Nat.le_of_ble_eq_true rfl, Nat.le_of_ble_eq_true rfl⟩, Nat.le_of_ble_eq_true rfl, Nat.le_of_ble_eq_true rfl⟩ dX7_take_2) (fun H locs hP hS => ?_)
  refine lv_if_ne (tgt := 11) hx hb dX7_take_5 (by decide) (fun hc => ?_) (fun hc => ?_)
  · replace h := ho_in hc h
    refine lv_aload_n hx hb dX7_take_11 rfl (lv_at hl 0 rfl) ?_
    obtain ⟨r2, q, h⟩ := ho_bd h
    refine hw_gr X hP LX7 fX7_7 rfl q dX7_take_12 ?_
    refine lv_iload_n hx hb dX7_take_15 rfl (lv_at hl 1 rfl) ?_
    obtain ⟨v3, q, h⟩ := ho_bd h
    refine hw_li X hP q dX7_take_16 ?_
    refine lv_if_ne (tgt := 22) hx hb dX7_take_17 (by decide) (fun hc => ?_) (fun hc => ?_)
    · replace h := ho_in hc h
      refine lv_aload_n hx hb dX7_take_22 rfl (lv_at hl 0 rfl) ?_
      obtain ⟨r4, q, h⟩ := ho_bd h
      refine hw_gr X hP LX7 fX7_7 rfl q dX7_take_23 ?_
      refine lv_iload_n hx hb dX7_take_26 rfl (lv_at hl 1 rfl) ?_
      refine lv_dup2_11 hx hb dX7_take_27 rfl rfl ?_
      obtain ⟨v5, q, h⟩ := ho_bd h
      refine hw_li X hP q dX7_take_28 ?_
      refine lv_iconst (v := 1) hx hb dX7_take_29 (by decide) ?_
      refine lv_isub hx hb dX7_take_30 ?_
      obtain ⟨z, q, h⟩ := ho_bd h
      refine hw_si X hP hS q dX7_take_31 (fun H locs hP hS => ?_)
      refine lv_aload_n hx hb dX7_take_32 rfl (lv_at hl 0 rfl) ?_
      obtain ⟨r6, q, h⟩ := ho_bd h
      refine hw_gr X hP LX7 fX7_7 rfl q dX7_take_33 ?_
      refine lv_iload_n hx hb dX7_take_36 rfl (lv_at hl 1 rfl) ?_
      obtain ⟨v7, q, h⟩ := ho_bd h
      refine hw_li X hP q dX7_take_37 ?_
      exact hw_iret X hP hS hr hlocks h dX7_take_38
    · replace h := ho_ip hc h
      refine lv_iconst (v := (-1)) hx hb dX7_take_20 (by decide) ?_
      exact hw_iret X hP hS hr hlocks h dX7_take_21
  · replace h := ho_ip hc h
    refine lv_bipush (v := (-2)) hx hb dX7_take_8 (by decide) ?_
    exact hw_iret X hP hS hr hlocks h dX7_take_10
def f_X7_rule_B19 (fu : Nat) (a0 : Nat) (x1 : Int32) (x2 : Int32) (z : hp_S) : Option (Int32 × hp_S) :=
  some ((-2), z)
def f_X7_rule_B52 (fu : Nat) (a0 : Nat) (x1 : Int32) (x2 : Int32) (w3 : Int32) (s0 : Int32) (s1 : Int32) (s2 : Nat) (z : hp_S) : Option (Int32 × hp_S) :=
  (ho_sz s2 s1 s0 z).bind fun z =>
  some (w3, z)
def f_X7_rule_B36 (fu : Nat) (a0 : Nat) (x1 : Int32) (x2 : Int32) (s0 : Int32) (z : hp_S) : Option (Int32 × hp_S) :=
  (ho_gr 7 a0 7 z).bind fun r5 =>
  if x2 = 1 then (
    f_X7_rule_B52 fu a0 x1 x2 s0 1 x1 r5 z
  ) else (
    f_X7_rule_B52 fu a0 x1 x2 s0 0 x1 r5 z
  )
def f_X7_rule (fu : Nat) (a0 : Nat) (x1 : Int32) (x2 : Int32) (z : hp_S) : Option (Int32 × hp_S) :=
  (f_X7_isIn fu x1 0 13 z).bind fun ⟨v1, z⟩ =>
  if v1 = 0 then (
    f_X7_rule_B19 fu a0 x1 x2  z
  ) else (
    (f_X7_isIn fu x2 0 1 z).bind fun ⟨v2, z⟩ =>
    if v2 = 0 then (
      f_X7_rule_B19 fu a0 x1 x2  z
    ) else (
      (ho_gr 7 a0 7 z).bind fun r3 =>
      (ho_li 2 r3 x1 z).bind fun v4 =>
      if v4 = 0 then (
        f_X7_rule_B36 fu a0 x1 x2 0 z
      ) else (
        f_X7_rule_B36 fu a0 x1 x2 1 z
      )
    )
  )
set_option maxHeartbeats 4000000 in
set_option maxRecDepth 100000 in
theorem c_X7_rule (l : Launch) (G : hp_G) (fu : Nat) (a0 : Nat) (x1 : Int32) (x2 : Int32) (z : hp_S) (rq : Int32) (zq : hp_S) (h : f_X7_rule fu a0 x1 x2 z = some (rq, zq)) : hp_M l G yX7_rule cX7_rule 4 (some .int) 1 22 0 0 [.ref a0, .int x1, .int x2] z (hp_Qi G rq zq) := by
  refine hp_M.of (by decide) (Nat.le_of_ble_eq_true rfl) ?_
  intro p e s m below meth c X hr hlocks hnm hP hS ls hl
  have X : hp_C G cX7_rule RX7 4 p s m c := X
  have hl : lv_has ls 4 [(0, .ref a0), (1, .int x1), (2, .int x2)] := hl
  have hx := X.1
  have hb := X.2.1
  have B19 : ∀ (z : hp_S) (H : Heap) (locs : List Loc) (ls : Array Slot), f_X7_rule_B19 fu a0 x1 x2 z = some (rq, zq) → hp_P G z H → va_S (hp_A G) s.heap H locs → lv_has ls 4 [(0, .ref a0), (1, .int x1), (2, .int x2)] → W p l e (hp_rm 1 22 0 0) s m [.ref a0, .int x1, .int x2].toArray below meth c H locs 0 0 (MQ below (hp_Qi G rq zq) [.ref a0, .int x1, .int x2].toArray s 0 0 (hp_A G)) (F0 m 19 ls []) := by
    intro z H locs ls h hP hS hl
    unfold f_X7_rule_B19 at h
    refine lv_bipush (v := (-2)) hx hb dX7_rule_19 (by decide) ?_
    exact hw_iret X hP hS hr hlocks h dX7_rule_21
  have B52 : ∀ (w3 : Int32) (s0 : Int32) (s1 : Int32) (s2 : Nat) (z : hp_S) (H : Heap) (locs : List Loc) (ls : Array Slot), f_X7_rule_B52 fu a0 x1 x2 w3 s0 s1 s2 z = some (rq, zq) → hp_P G z H → va_S (hp_A G) s.heap H locs → lv_has ls 4 [(0, .ref a0), (1, .int x1), (2, .int x2), (3, .int w3)] → W p l e (hp_rm 1 22 0 0) s m [.ref a0, .int x1, .int x2].toArray below meth c H locs 0 0 (MQ below (hp_Qi G rq zq) [.ref a0, .int x1, .int x2].toArray s 0 0 (hp_A G)) (F0 m 52 ls [.int s0, .int s1, .ref s2]) := by
    intro w3 s0 s1 s2 z H locs ls h hP hS hl
    unfold f_X7_rule_B52 at h
    obtain ⟨z, q, h⟩ := ho_bd h
    refine hw_sz X hP hS q dX7_rule_52 (fun H locs hP hS => ?_)
    refine lv_iload_n hx hb dX7_rule_53 rfl (lv_at hl 3 rfl) ?_
    exact hw_iret X hP hS hr hlocks h dX7_rule_54
  have B36 : ∀ (s0 : Int32) (z : hp_S) (H : Heap) (locs : List Loc) (ls : Array Slot), f_X7_rule_B36 fu a0 x1 x2 s0 z = some (rq, zq) → hp_P G z H → va_S (hp_A G) s.heap H locs → lv_has ls 4 [(0, .ref a0), (1, .int x1), (2, .int x2)] → W p l e (hp_rm 1 22 0 0) s m [.ref a0, .int x1, .int x2].toArray below meth c H locs 0 0 (MQ below (hp_Qi G rq zq) [.ref a0, .int x1, .int x2].toArray s 0 0 (hp_A G)) (F0 m 36 ls [.int s0]) := by
    intro s0 z H locs ls h hP hS hl
    unfold f_X7_rule_B36 at h
    refine lv_istore_n (lv' := [(3, .int s0), (0, .ref a0), (1, .int x1), (2, .int x2)]) hx hb dX7_rule_36 rfl hl (by decide) rfl (fun ls hl => ?_)
    refine lv_aload_n hx hb dX7_rule_37 rfl (lv_at hl 1 rfl) ?_
    obtain ⟨r5, q, h⟩ := ho_bd h
    refine hw_gr X hP LX7 fX7_28 rfl q dX7_rule_38 ?_
    refine lv_iload_n hx hb dX7_rule_41 rfl (lv_at hl 2 rfl) ?_
    refine lv_iload_n hx hb dX7_rule_42 rfl (lv_at hl 3 rfl) ?_
    refine lv_iconst (v := 1) hx hb dX7_rule_43 (by decide) ?_
    refine lv_icmp_ne (tgt := 51) hx hb dX7_rule_44 (by decide) (fun hc => ?_) (fun hc => ?_)
    · replace h := ho_in hc h
      refine lv_iconst (v := 0) hx hb dX7_rule_51 (by decide) ?_
      exact B52 s0 0 x1 r5 z _ _ _ h hP hS (lv_sub hl [1, 2, 3, 0] rfl)
    · replace h := ho_ip hc h
      refine lv_iconst (v := 1) hx hb dX7_rule_47 (by decide) ?_
      refine lv_goto (tgt := 52) hx hb dX7_rule_48 (by decide) ?_
      exact B52 s0 1 x1 r5 z _ _ _ h hP hS (lv_sub hl [1, 2, 3, 0] rfl)
  unfold f_X7_rule at h
  refine lv_iload_n hx hb dX7_rule_0 rfl (lv_at hl 1 rfl) ?_
  refine lv_iconst (v := 0) hx hb dX7_rule_1 (by decide) ?_
  refine lv_bipush (v := 13) hx hb dX7_rule_2 (by decide) ?_
  obtain ⟨⟨v1, z⟩, q, h⟩ := ho_bd h
  refine hw_ci hS (hp_runS (As := [.int x1, .int 0, .int 13]) (rest := []) X hP hS hl.1 kX7_81 m3_183 (c_X7_isIn l G fu x1 0 13 _ _ _ q) rfl (Nat.le_of_ble_eq_true rfl) ⟨⟨Nat.le_of_ble_eq_true rfl, Nat.le_of_ble_eq_true rfl⟩, Nat.le_of_ble_eq_true rfl, Nat.le_of_ble_eq_true rfl⟩ dX7_rule_4) (fun H locs hP hS => ?_)
  refine lv_if_eq (tgt := 19) hx hb dX7_rule_7 (by decide) (fun hc => ?_) (fun hc => ?_)
  · replace h := ho_ip hc h
    exact B19 z _ _ _ h hP hS (lv_sub hl [0, 1, 2] rfl)
  · replace h := ho_in hc h
    refine lv_iload_n hx hb dX7_rule_10 rfl (lv_at hl 2 rfl) ?_
    refine lv_iconst (v := 0) hx hb dX7_rule_11 (by decide) ?_
    refine lv_iconst (v := 1) hx hb dX7_rule_12 (by decide) ?_
    obtain ⟨⟨v2, z⟩, q, h⟩ := ho_bd h
    refine hw_ci hS (hp_runS (As := [.int x2, .int 0, .int 1]) (rest := []) X hP hS hl.1 kX7_81 m3_183 (c_X7_isIn l G fu x2 0 1 _ _ _ q) rfl (Nat.le_of_ble_eq_true rfl) ⟨⟨Nat.le_of_ble_eq_true rfl, Nat.le_of_ble_eq_true rfl⟩, Nat.le_of_ble_eq_true rfl, Nat.le_of_ble_eq_true rfl⟩ dX7_rule_13) (fun H locs hP hS => ?_)
    refine lv_if_ne (tgt := 22) hx hb dX7_rule_16 (by decide) (fun hc => ?_) (fun hc => ?_)
    · replace h := ho_in hc h
      refine lv_aload_n hx hb dX7_rule_22 rfl (lv_at hl 0 rfl) ?_
      obtain ⟨r3, q, h⟩ := ho_bd h
      refine hw_gr X hP LX7 fX7_28 rfl q dX7_rule_23 ?_
      refine lv_iload_n hx hb dX7_rule_26 rfl (lv_at hl 1 rfl) ?_
      obtain ⟨v4, q, h⟩ := ho_bd h
      refine hw_lz X hP q dX7_rule_27 ?_
      refine lv_if_eq (tgt := 35) hx hb dX7_rule_28 (by decide) (fun hc => ?_) (fun hc => ?_)
      · replace h := ho_ip hc h
        refine lv_iconst (v := 0) hx hb dX7_rule_35 (by decide) ?_
        exact B36 0 z _ _ _ h hP hS (lv_sub hl [0, 1, 2] rfl)
      · replace h := ho_in hc h
        refine lv_iconst (v := 1) hx hb dX7_rule_31 (by decide) ?_
        refine lv_goto (tgt := 36) hx hb dX7_rule_32 (by decide) ?_
        exact B36 1 z _ _ _ h hP hS (lv_sub hl [0, 1, 2] rfl)
    · replace h := ho_ip hc h
      exact B19 z _ _ _ h hP hS (lv_sub hl [0, 1, 2] rfl)
def f_X7_style_B151 (fu : Nat) (a0 : Nat) (x1 : Int32) (w2 : Int32) (z : hp_S) : Option (Int32 × hp_S) :=
  some (w2, z)
def f_X7_style_B143 (fu : Nat) (a0 : Nat) (x1 : Int32) (ag : Int32 → Int32 → hp_S → Option (Int32 × hp_S)) (kk : Int32 → hp_S → Option (Int32 × hp_S)) (w3 : Int32) (s0 : Int32) (s1 : Int32) (z : hp_S) : Option (Int32 × hp_S) :=
  (ho_id (s1 + s0)).bind fun v5 =>
  (ho_id (w3 + 1)).bind fun v6 =>
  ag v5 v6 z
def f_X7_style_B127 (fu : Nat) (a0 : Nat) (x1 : Int32) (ag : Int32 → Int32 → hp_S → Option (Int32 × hp_S)) (kk : Int32 → hp_S → Option (Int32 × hp_S)) (w2 : Int32) (w3 : Int32) (s0 : Int32) (s1 : Int32) (s2 : Nat) (z : hp_S) : Option (Int32 × hp_S) :=
  (ho_sz s2 s1 s0 z).bind fun z =>
  (ho_gr 7 a0 7 z).bind fun r3 =>
  (ho_li 2 r3 w3 z).bind fun v4 =>
  if v4 = 0 then (
    f_X7_style_B143 fu a0 x1 ag kk w3 0 w2 z
  ) else (
    f_X7_style_B143 fu a0 x1 ag kk w3 1 w2 z
  )
def f_X7_style_B122 (fu : Nat) (a0 : Nat) (x1 : Int32) (ag : Int32 → Int32 → hp_S → Option (Int32 × hp_S)) (kk : Int32 → hp_S → Option (Int32 × hp_S)) (w2 : Int32) (w3 : Int32) (s0 : Int32) (s1 : Nat) (z : hp_S) : Option (Int32 × hp_S) :=
  f_X7_style_B127 fu a0 x1 ag kk w2 w3 1 s0 s1 z
def f_X7_style_B126 (fu : Nat) (a0 : Nat) (x1 : Int32) (ag : Int32 → Int32 → hp_S → Option (Int32 × hp_S)) (kk : Int32 → hp_S → Option (Int32 × hp_S)) (w2 : Int32) (w3 : Int32) (s0 : Int32) (s1 : Nat) (z : hp_S) : Option (Int32 × hp_S) :=
  f_X7_style_B127 fu a0 x1 ag kk w2 w3 0 s0 s1 z
def f_X7_style_B113 (fu : Nat) (a0 : Nat) (x1 : Int32) (ag : Int32 → Int32 → hp_S → Option (Int32 × hp_S)) (kk : Int32 → hp_S → Option (Int32 × hp_S)) (w2 : Int32) (w3 : Int32) (s0 : Int32) (s1 : Nat) (z : hp_S) : Option (Int32 × hp_S) :=
  if x1 = 3 then (
    if w3 = 0 then (
      f_X7_style_B122 fu a0 x1 ag kk w2 w3 s0 s1 z
    ) else (
      f_X7_style_B126 fu a0 x1 ag kk w2 w3 s0 s1 z
    )
  ) else (
    f_X7_style_B126 fu a0 x1 ag kk w2 w3 s0 s1 z
  )
def f_X7_style_B103 (fu : Nat) (a0 : Nat) (x1 : Int32) (ag : Int32 → Int32 → hp_S → Option (Int32 × hp_S)) (kk : Int32 → hp_S → Option (Int32 × hp_S)) (w2 : Int32) (w3 : Int32) (w4 : Int32) (s0 : Int32) (s1 : Nat) (z : hp_S) : Option (Int32 × hp_S) :=
  if x1 = 2 then (
    if w4 = 0 then (
      f_X7_style_B113 fu a0 x1 ag kk w2 w3 s0 s1 z
    ) else (
      f_X7_style_B122 fu a0 x1 ag kk w2 w3 s0 s1 z
    )
  ) else (
    f_X7_style_B113 fu a0 x1 ag kk w2 w3 s0 s1 z
  )
def f_X7_style_B82 (fu : Nat) (a0 : Nat) (x1 : Int32) (ag : Int32 → Int32 → hp_S → Option (Int32 × hp_S)) (kk : Int32 → hp_S → Option (Int32 × hp_S)) (w2 : Int32) (w3 : Int32) (w4 : Int32) (s0 : Int32) (z : hp_S) : Option (Int32 × hp_S) :=
  (ho_gr 7 a0 7 z).bind fun r2 =>
  if x1 = 0 then (
    f_X7_style_B122 fu a0 x1 ag kk w2 w3 w3 r2 z
  ) else (
    if x1 = 1 then (
      if s0 = 0 then (
        f_X7_style_B103 fu a0 x1 ag kk w2 w3 w4 w3 r2 z
      ) else (
        f_X7_style_B122 fu a0 x1 ag kk w2 w3 w3 r2 z
      )
    ) else (
      f_X7_style_B103 fu a0 x1 ag kk w2 w3 w4 w3 r2 z
    )
  )
def f_X7_style_B81 (fu : Nat) (a0 : Nat) (x1 : Int32) (ag : Int32 → Int32 → hp_S → Option (Int32 × hp_S)) (kk : Int32 → hp_S → Option (Int32 × hp_S)) (w2 : Int32) (w3 : Int32) (w4 : Int32) (z : hp_S) : Option (Int32 × hp_S) :=
  f_X7_style_B82 fu a0 x1 ag kk w2 w3 w4 0 z
def f_X7_style_B53 (fu : Nat) (a0 : Nat) (x1 : Int32) (ag : Int32 → Int32 → hp_S → Option (Int32 × hp_S)) (kk : Int32 → hp_S → Option (Int32 × hp_S)) (w2 : Int32) (w3 : Int32) (s0 : Int32) (z : hp_S) : Option (Int32 × hp_S) :=
  if w3 = 1 then (
    f_X7_style_B81 fu a0 x1 ag kk w2 w3 s0 z
  ) else (
    if w3 = 4 then (
      f_X7_style_B81 fu a0 x1 ag kk w2 w3 s0 z
    ) else (
      if w3 = 12 then (
        f_X7_style_B81 fu a0 x1 ag kk w2 w3 s0 z
      ) else (
        if w3 = 13 then (
          f_X7_style_B81 fu a0 x1 ag kk w2 w3 s0 z
        ) else (
          f_X7_style_B82 fu a0 x1 ag kk w2 w3 s0 1 z
        )
      )
    )
  )
def f_X7_style_B48 (fu : Nat) (a0 : Nat) (x1 : Int32) (ag : Int32 → Int32 → hp_S → Option (Int32 × hp_S)) (kk : Int32 → hp_S → Option (Int32 × hp_S)) (w2 : Int32) (w3 : Int32) (z : hp_S) : Option (Int32 × hp_S) :=
  f_X7_style_B53 fu a0 x1 ag kk w2 w3 1 z
def f_X7_style_L16 (fu : Nat) (a0 : Nat) (x1 : Int32) (kk : Int32 → hp_S → Option (Int32 × hp_S)) : Nat → Int32 → Int32 → hp_S → Option (Int32 × hp_S)
  | 0, _, _, _ => none
  | n + 1, w2, w3, z =>
    if 14 ≤ w3 then (
      kk w2 z
    ) else (
      if w3 = 0 then (
        f_X7_style_B48 fu a0 x1 (f_X7_style_L16 fu a0 x1 kk n) kk w2 w3 z
      ) else (
        if w3 = 2 then (
          f_X7_style_B48 fu a0 x1 (f_X7_style_L16 fu a0 x1 kk n) kk w2 w3 z
        ) else (
          if w3 = 3 then (
            f_X7_style_B48 fu a0 x1 (f_X7_style_L16 fu a0 x1 kk n) kk w2 w3 z
          ) else (
            if w3 = 8 then (
              f_X7_style_B48 fu a0 x1 (f_X7_style_L16 fu a0 x1 kk n) kk w2 w3 z
            ) else (
              if w3 = 9 then (
                f_X7_style_B48 fu a0 x1 (f_X7_style_L16 fu a0 x1 kk n) kk w2 w3 z
              ) else (
                f_X7_style_B53 fu a0 x1 (f_X7_style_L16 fu a0 x1 kk n) kk w2 w3 0 z
              )
            )
          )
        )
      )
    )
def f_X7_style (fu : Nat) (a0 : Nat) (x1 : Int32) (z : hp_S) : Option (Int32 × hp_S) :=
  (f_X7_isIn fu x1 0 4 z).bind fun ⟨v1, z⟩ =>
  if v1 = 0 then (
    some ((-2), z)
  ) else (
    f_X7_style_L16 fu a0 x1 (f_X7_style_B151 fu a0 x1) fu 0 0 z
  )
set_option maxHeartbeats 4000000 in
set_option maxRecDepth 100000 in
theorem c_X7_style (l : Launch) (G : hp_G) (fu : Nat) (a0 : Nat) (x1 : Int32) (z : hp_S) (rq : Int32) (zq : hp_S) (h : f_X7_style fu a0 x1 z = some (rq, zq)) : hp_M l G yX7_style cX7_style 6 (some .int) 1 22 0 0 [.ref a0, .int x1] z (hp_Qi G rq zq) := by
  refine hp_M.of (by decide) (Nat.le_of_ble_eq_true rfl) ?_
  intro p e s m below meth c X hr hlocks hnm hP hS ls hl
  have X : hp_C G cX7_style RX7 6 p s m c := X
  have hl : lv_has ls 6 [(0, .ref a0), (1, .int x1)] := hl
  have hx := X.1
  have hb := X.2.1
  have B151 : ∀ (w2 : Int32) (z : hp_S) (H : Heap) (locs : List Loc) (ls : Array Slot), f_X7_style_B151 fu a0 x1 w2 z = some (rq, zq) → hp_P G z H → va_S (hp_A G) s.heap H locs → lv_has ls 6 [(0, .ref a0), (1, .int x1), (2, .int w2)] → W p l e (hp_rm 1 22 0 0) s m [.ref a0, .int x1].toArray below meth c H locs 0 0 (MQ below (hp_Qi G rq zq) [.ref a0, .int x1].toArray s 0 0 (hp_A G)) (F0 m 151 ls []) := by
    intro w2 z H locs ls h hP hS hl
    unfold f_X7_style_B151 at h
    refine lv_iload_n hx hb dX7_style_151 rfl (lv_at hl 2 rfl) ?_
    exact hw_iret X hP hS hr hlocks h dX7_style_152
  have L16 : ∀ (n16 : Nat) (w2 : Int32) (w3 : Int32) (z : hp_S) (H : Heap) (locs : List Loc) (ls : Array Slot), f_X7_style_L16 fu a0 x1 (f_X7_style_B151 fu a0 x1) n16 w2 w3 z = some (rq, zq) → hp_P G z H → va_S (hp_A G) s.heap H locs → lv_has ls 6 [(0, .ref a0), (1, .int x1), (2, .int w2), (3, .int w3)] → W p l e (hp_rm 1 22 0 0) s m [.ref a0, .int x1].toArray below meth c H locs 0 0 (MQ below (hp_Qi G rq zq) [.ref a0, .int x1].toArray s 0 0 (hp_A G)) (F0 m 16 ls []) := by
    intro n16
    induction n16 with
    | zero =>
      intro w2 w3 z H locs ls h
      exact nomatch (h : (none : Option (Int32 × hp_S)) = some (rq, zq))
    | succ n16 ih16 =>
      have B143 : ∀ (w3 : Int32) (s0 : Int32) (s1 : Int32) (z : hp_S) (H : Heap) (locs : List Loc) (ls : Array Slot), f_X7_style_B143 fu a0 x1 (f_X7_style_L16 fu a0 x1 (f_X7_style_B151 fu a0 x1) n16) (f_X7_style_B151 fu a0 x1) w3 s0 s1 z = some (rq, zq) → hp_P G z H → va_S (hp_A G) s.heap H locs → lv_has ls 6 [(0, .ref a0), (1, .int x1), (3, .int w3)] → W p l e (hp_rm 1 22 0 0) s m [.ref a0, .int x1].toArray below meth c H locs 0 0 (MQ below (hp_Qi G rq zq) [.ref a0, .int x1].toArray s 0 0 (hp_A G)) (F0 m 143 ls [.int s0, .int s1]) := by
        intro w3 s0 s1 z H locs ls h hP hS hl
        unfold f_X7_style_B143 at h
        refine lv_iadd hx hb dX7_style_143 ?_
        obtain ⟨v5, q, h⟩ := ho_bd h
        refine hw_id q ?_
        refine lv_istore_n (lv' := [(2, .int v5), (0, .ref a0), (1, .int x1), (3, .int w3)]) hx hb dX7_style_144 rfl hl (by decide) rfl (fun ls hl => ?_)
        obtain ⟨v6, q, h⟩ := ho_bd h
        refine lv_iinc (v := v6) (lv' := [(3, .int v6), (2, .int v5), (0, .ref a0), (1, .int x1)]) hx hb dX7_style_145 hl (k := 3) rfl (Option.some.inj q) (by decide) rfl (fun ls hl => ?_)
        refine lv_goto (tgt := 16) hx hb dX7_style_148 (by decide) ?_
        exact ih16 v5 v6 z _ _ _ h hP hS (lv_sub hl [2, 3, 1, 0] rfl)
      have B127 : ∀ (w2 : Int32) (w3 : Int32) (s0 : Int32) (s1 : Int32) (s2 : Nat) (z : hp_S) (H : Heap) (locs : List Loc) (ls : Array Slot), f_X7_style_B127 fu a0 x1 (f_X7_style_L16 fu a0 x1 (f_X7_style_B151 fu a0 x1) n16) (f_X7_style_B151 fu a0 x1) w2 w3 s0 s1 s2 z = some (rq, zq) → hp_P G z H → va_S (hp_A G) s.heap H locs → lv_has ls 6 [(0, .ref a0), (1, .int x1), (2, .int w2), (3, .int w3)] → W p l e (hp_rm 1 22 0 0) s m [.ref a0, .int x1].toArray below meth c H locs 0 0 (MQ below (hp_Qi G rq zq) [.ref a0, .int x1].toArray s 0 0 (hp_A G)) (F0 m 127 ls [.int s0, .int s1, .ref s2]) := by
        intro w2 w3 s0 s1 s2 z H locs ls h hP hS hl
        unfold f_X7_style_B127 at h
        obtain ⟨z, q, h⟩ := ho_bd h
        refine hw_sz X hP hS q dX7_style_127 (fun H locs hP hS => ?_)
        refine lv_iload_n hx hb dX7_style_128 rfl (lv_at hl 2 rfl) ?_
        refine lv_aload_n hx hb dX7_style_129 rfl (lv_at hl 0 rfl) ?_
        obtain ⟨r3, q, h⟩ := ho_bd h
        refine hw_gr X hP LX7 fX7_28 rfl q dX7_style_130 ?_
        refine lv_iload_n hx hb dX7_style_133 rfl (lv_at hl 3 rfl) ?_
        obtain ⟨v4, q, h⟩ := ho_bd h
        refine hw_lz X hP q dX7_style_134 ?_
        refine lv_if_eq (tgt := 142) hx hb dX7_style_135 (by decide) (fun hc => ?_) (fun hc => ?_)
        · replace h := ho_ip hc h
          refine lv_iconst (v := 0) hx hb dX7_style_142 (by decide) ?_
          exact B143 w3 0 w2 z _ _ _ h hP hS (lv_sub hl [0, 1, 3] rfl)
        · replace h := ho_in hc h
          refine lv_iconst (v := 1) hx hb dX7_style_138 (by decide) ?_
          refine lv_goto (tgt := 143) hx hb dX7_style_139 (by decide) ?_
          exact B143 w3 1 w2 z _ _ _ h hP hS (lv_sub hl [0, 1, 3] rfl)
      have B122 : ∀ (w2 : Int32) (w3 : Int32) (s0 : Int32) (s1 : Nat) (z : hp_S) (H : Heap) (locs : List Loc) (ls : Array Slot), f_X7_style_B122 fu a0 x1 (f_X7_style_L16 fu a0 x1 (f_X7_style_B151 fu a0 x1) n16) (f_X7_style_B151 fu a0 x1) w2 w3 s0 s1 z = some (rq, zq) → hp_P G z H → va_S (hp_A G) s.heap H locs → lv_has ls 6 [(0, .ref a0), (1, .int x1), (2, .int w2), (3, .int w3)] → W p l e (hp_rm 1 22 0 0) s m [.ref a0, .int x1].toArray below meth c H locs 0 0 (MQ below (hp_Qi G rq zq) [.ref a0, .int x1].toArray s 0 0 (hp_A G)) (F0 m 122 ls [.int s0, .ref s1]) := by
        intro w2 w3 s0 s1 z H locs ls h hP hS hl
        unfold f_X7_style_B122 at h
        refine lv_iconst (v := 1) hx hb dX7_style_122 (by decide) ?_
        refine lv_goto (tgt := 127) hx hb dX7_style_123 (by decide) ?_
        exact B127 w2 w3 1 s0 s1 z _ _ _ h hP hS (lv_sub hl [0, 1, 2, 3] rfl)
      have B126 : ∀ (w2 : Int32) (w3 : Int32) (s0 : Int32) (s1 : Nat) (z : hp_S) (H : Heap) (locs : List Loc) (ls : Array Slot), f_X7_style_B126 fu a0 x1 (f_X7_style_L16 fu a0 x1 (f_X7_style_B151 fu a0 x1) n16) (f_X7_style_B151 fu a0 x1) w2 w3 s0 s1 z = some (rq, zq) → hp_P G z H → va_S (hp_A G) s.heap H locs → lv_has ls 6 [(0, .ref a0), (1, .int x1), (2, .int w2), (3, .int w3)] → W p l e (hp_rm 1 22 0 0) s m [.ref a0, .int x1].toArray below meth c H locs 0 0 (MQ below (hp_Qi G rq zq) [.ref a0, .int x1].toArray s 0 0 (hp_A G)) (F0 m 126 ls [.int s0, .ref s1]) := by
        intro w2 w3 s0 s1 z H locs ls h hP hS hl
        unfold f_X7_style_B126 at h
        refine lv_iconst (v := 0) hx hb dX7_style_126 (by decide) ?_
        exact B127 w2 w3 0 s0 s1 z _ _ _ h hP hS (lv_sub hl [0, 1, 2, 3] rfl)
      have B113 : ∀ (w2 : Int32) (w3 : Int32) (s0 : Int32) (s1 : Nat) (z : hp_S) (H : Heap) (locs : List Loc) (ls : Array Slot), f_X7_style_B113 fu a0 x1 (f_X7_style_L16 fu a0 x1 (f_X7_style_B151 fu a0 x1) n16) (f_X7_style_B151 fu a0 x1) w2 w3 s0 s1 z = some (rq, zq) → hp_P G z H → va_S (hp_A G) s.heap H locs → lv_has ls 6 [(0, .ref a0), (1, .int x1), (2, .int w2), (3, .int w3)] → W p l e (hp_rm 1 22 0 0) s m [.ref a0, .int x1].toArray below meth c H locs 0 0 (MQ below (hp_Qi G rq zq) [.ref a0, .int x1].toArray s 0 0 (hp_A G)) (F0 m 113 ls [.int s0, .ref s1]) := by
        intro w2 w3 s0 s1 z H locs ls h hP hS hl
        unfold f_X7_style_B113 at h
        refine lv_iload_n hx hb dX7_style_113 rfl (lv_at hl 1 rfl) ?_
        refine lv_iconst (v := 3) hx hb dX7_style_114 (by decide) ?_
        refine lv_icmp_ne (tgt := 126) hx hb dX7_style_115 (by decide) (fun hc => ?_) (fun hc => ?_)
        · replace h := ho_in hc h
          exact B126 w2 w3 s0 s1 z _ _ _ h hP hS (lv_sub hl [0, 1, 2, 3] rfl)
        · replace h := ho_ip hc h
          refine lv_iload_n hx hb dX7_style_118 rfl (lv_at hl 3 rfl) ?_
          refine lv_if_ne (tgt := 126) hx hb dX7_style_119 (by decide) (fun hc => ?_) (fun hc => ?_)
          · replace h := ho_in hc h
            exact B126 w2 w3 s0 s1 z _ _ _ h hP hS (lv_sub hl [0, 1, 2, 3] rfl)
          · replace h := ho_ip hc h
            exact B122 w2 w3 s0 s1 z _ _ _ h hP hS (lv_sub hl [0, 1, 2, 3] rfl)
      have B103 : ∀ (w2 : Int32) (w3 : Int32) (w4 : Int32) (s0 : Int32) (s1 : Nat) (z : hp_S) (H : Heap) (locs : List Loc) (ls : Array Slot), f_X7_style_B103 fu a0 x1 (f_X7_style_L16 fu a0 x1 (f_X7_style_B151 fu a0 x1) n16) (f_X7_style_B151 fu a0 x1) w2 w3 w4 s0 s1 z = some (rq, zq) → hp_P G z H → va_S (hp_A G) s.heap H locs → lv_has ls 6 [(0, .ref a0), (1, .int x1), (2, .int w2), (3, .int w3), (4, .int w4)] → W p l e (hp_rm 1 22 0 0) s m [.ref a0, .int x1].toArray below meth c H locs 0 0 (MQ below (hp_Qi G rq zq) [.ref a0, .int x1].toArray s 0 0 (hp_A G)) (F0 m 103 ls [.int s0, .ref s1]) := by
        intro w2 w3 w4 s0 s1 z H locs ls h hP hS hl
        unfold f_X7_style_B103 at h
        refine lv_iload_n hx hb dX7_style_103 rfl (lv_at hl 1 rfl) ?_
        refine lv_iconst (v := 2) hx hb dX7_style_104 (by decide) ?_
        refine lv_icmp_ne (tgt := 113) hx hb dX7_style_105 (by decide) (fun hc => ?_) (fun hc => ?_)
        · replace h := ho_in hc h
          exact B113 w2 w3 s0 s1 z _ _ _ h hP hS (lv_sub hl [0, 1, 2, 3] rfl)
        · replace h := ho_ip hc h
          refine lv_iload hx hb dX7_style_108 (lv_at hl 4 rfl) ?_
          refine lv_if_ne (tgt := 122) hx hb dX7_style_110 (by decide) (fun hc => ?_) (fun hc => ?_)
          · replace h := ho_in hc h
            exact B122 w2 w3 s0 s1 z _ _ _ h hP hS (lv_sub hl [0, 1, 2, 3] rfl)
          · replace h := ho_ip hc h
            exact B113 w2 w3 s0 s1 z _ _ _ h hP hS (lv_sub hl [0, 1, 2, 3] rfl)
      have B82 : ∀ (w2 : Int32) (w3 : Int32) (w4 : Int32) (s0 : Int32) (z : hp_S) (H : Heap) (locs : List Loc) (ls : Array Slot), f_X7_style_B82 fu a0 x1 (f_X7_style_L16 fu a0 x1 (f_X7_style_B151 fu a0 x1) n16) (f_X7_style_B151 fu a0 x1) w2 w3 w4 s0 z = some (rq, zq) → hp_P G z H → va_S (hp_A G) s.heap H locs → lv_has ls 6 [(0, .ref a0), (1, .int x1), (2, .int w2), (3, .int w3), (4, .int w4)] → W p l e (hp_rm 1 22 0 0) s m [.ref a0, .int x1].toArray below meth c H locs 0 0 (MQ below (hp_Qi G rq zq) [.ref a0, .int x1].toArray s 0 0 (hp_A G)) (F0 m 82 ls [.int s0]) := by
        intro w2 w3 w4 s0 z H locs ls h hP hS hl
        unfold f_X7_style_B82 at h
        refine lv_istore (lv' := [(5, .int s0), (0, .ref a0), (1, .int x1), (2, .int w2), (3, .int w3), (4, .int w4)]) hx hb dX7_style_82 hl (by decide) rfl (fun ls hl => ?_)
        refine lv_aload_n hx hb dX7_style_84 rfl (lv_at hl 1 rfl) ?_
        obtain ⟨r2, q, h⟩ := ho_bd h
        refine hw_gr X hP LX7 fX7_28 rfl q dX7_style_85 ?_
        refine lv_iload_n hx hb dX7_style_88 rfl (lv_at hl 4 rfl) ?_
        refine lv_iload_n hx hb dX7_style_89 rfl (lv_at hl 2 rfl) ?_
        refine lv_if_eq (tgt := 122) hx hb dX7_style_90 (by decide) (fun hc => ?_) (fun hc => ?_)
        · replace h := ho_ip hc h
          exact B122 w2 w3 w3 r2 z _ _ _ h hP hS (lv_sub hl [1, 2, 3, 4] rfl)
        · replace h := ho_in hc h
          refine lv_iload_n hx hb dX7_style_93 rfl (lv_at hl 2 rfl) ?_
          refine lv_iconst (v := 1) hx hb dX7_style_94 (by decide) ?_
          refine lv_icmp_ne (tgt := 103) hx hb dX7_style_95 (by decide) (fun hc => ?_) (fun hc => ?_)
          · replace h := ho_in hc h
            exact B103 w2 w3 w4 w3 r2 z _ _ _ h hP hS (lv_sub hl [1, 2, 3, 4, 5] rfl)
          · replace h := ho_ip hc h
            refine lv_iload hx hb dX7_style_98 (lv_at hl 0 rfl) ?_
            refine lv_if_ne (tgt := 122) hx hb dX7_style_100 (by decide) (fun hc => ?_) (fun hc => ?_)
            · replace h := ho_in hc h
              exact B122 w2 w3 w3 r2 z _ _ _ h hP hS (lv_sub hl [1, 2, 3, 4] rfl)
            · replace h := ho_ip hc h
              exact B103 w2 w3 w4 w3 r2 z _ _ _ h hP hS (lv_sub hl [1, 2, 3, 4, 5] rfl)
      have B81 : ∀ (w2 : Int32) (w3 : Int32) (w4 : Int32) (z : hp_S) (H : Heap) (locs : List Loc) (ls : Array Slot), f_X7_style_B81 fu a0 x1 (f_X7_style_L16 fu a0 x1 (f_X7_style_B151 fu a0 x1) n16) (f_X7_style_B151 fu a0 x1) w2 w3 w4 z = some (rq, zq) → hp_P G z H → va_S (hp_A G) s.heap H locs → lv_has ls 6 [(0, .ref a0), (1, .int x1), (2, .int w2), (3, .int w3), (4, .int w4)] → W p l e (hp_rm 1 22 0 0) s m [.ref a0, .int x1].toArray below meth c H locs 0 0 (MQ below (hp_Qi G rq zq) [.ref a0, .int x1].toArray s 0 0 (hp_A G)) (F0 m 81 ls []) := by
        intro w2 w3 w4 z H locs ls h hP hS hl
        unfold f_X7_style_B81 at h
        refine lv_iconst (v := 0) hx hb dX7_style_81 (by decide) ?_
        exact B82 w2 w3 w4 0 z _ _ _ h hP hS (lv_sub hl [0, 1, 2, 3, 4] rfl)
      have B53 : ∀ (w2 : Int32) (w3 : Int32) (s0 : Int32) (z : hp_S) (H : Heap) (locs : List Loc) (ls : Array Slot), f_X7_style_B53 fu a0 x1 (f_X7_style_L16 fu a0 x1 (f_X7_style_B151 fu a0 x1) n16) (f_X7_style_B151 fu a0 x1) w2 w3 s0 z = some (rq, zq) → hp_P G z H → va_S (hp_A G) s.heap H locs → lv_has ls 6 [(0, .ref a0), (1, .int x1), (2, .int w2), (3, .int w3)] → W p l e (hp_rm 1 22 0 0) s m [.ref a0, .int x1].toArray below meth c H locs 0 0 (MQ below (hp_Qi G rq zq) [.ref a0, .int x1].toArray s 0 0 (hp_A G)) (F0 m 53 ls [.int s0]) := by
        intro w2 w3 s0 z H locs ls h hP hS hl
        unfold f_X7_style_B53 at h
        refine lv_istore (lv' := [(4, .int s0), (0, .ref a0), (1, .int x1), (2, .int w2), (3, .int w3)]) hx hb dX7_style_53 hl (by decide) rfl (fun ls hl => ?_)
        refine lv_iload_n hx hb dX7_style_55 rfl (lv_at hl 4 rfl) ?_
        refine lv_iconst (v := 1) hx hb dX7_style_56 (by decide) ?_
        refine lv_icmp_eq (tgt := 81) hx hb dX7_style_57 (by decide) (fun hc => ?_) (fun hc => ?_)
        · replace h := ho_ip hc h
          exact B81 w2 w3 s0 z _ _ _ h hP hS (lv_sub hl [1, 2, 3, 4, 0] rfl)
        · replace h := ho_in hc h
          refine lv_iload_n hx hb dX7_style_60 rfl (lv_at hl 4 rfl) ?_
          refine lv_iconst (v := 4) hx hb dX7_style_61 (by decide) ?_
          refine lv_icmp_eq (tgt := 81) hx hb dX7_style_62 (by decide) (fun hc => ?_) (fun hc => ?_)
          · replace h := ho_ip hc h
            exact B81 w2 w3 s0 z _ _ _ h hP hS (lv_sub hl [1, 2, 3, 4, 0] rfl)
          · replace h := ho_in hc h
            refine lv_iload_n hx hb dX7_style_65 rfl (lv_at hl 4 rfl) ?_
            refine lv_bipush (v := 12) hx hb dX7_style_66 (by decide) ?_
            refine lv_icmp_eq (tgt := 81) hx hb dX7_style_68 (by decide) (fun hc => ?_) (fun hc => ?_)
            · replace h := ho_ip hc h
              exact B81 w2 w3 s0 z _ _ _ h hP hS (lv_sub hl [1, 2, 3, 4, 0] rfl)
            · replace h := ho_in hc h
              refine lv_iload_n hx hb dX7_style_71 rfl (lv_at hl 4 rfl) ?_
              refine lv_bipush (v := 13) hx hb dX7_style_72 (by decide) ?_
              refine lv_icmp_eq (tgt := 81) hx hb dX7_style_74 (by decide) (fun hc => ?_) (fun hc => ?_)
              · replace h := ho_ip hc h
                exact B81 w2 w3 s0 z _ _ _ h hP hS (lv_sub hl [1, 2, 3, 4, 0] rfl)
              · replace h := ho_in hc h
                refine lv_iconst (v := 1) hx hb dX7_style_77 (by decide) ?_
                refine lv_goto (tgt := 82) hx hb dX7_style_78 (by decide) ?_
                exact B82 w2 w3 s0 1 z _ _ _ h hP hS (lv_sub hl [1, 2, 3, 4, 0] rfl)
      have B48 : ∀ (w2 : Int32) (w3 : Int32) (z : hp_S) (H : Heap) (locs : List Loc) (ls : Array Slot), f_X7_style_B48 fu a0 x1 (f_X7_style_L16 fu a0 x1 (f_X7_style_B151 fu a0 x1) n16) (f_X7_style_B151 fu a0 x1) w2 w3 z = some (rq, zq) → hp_P G z H → va_S (hp_A G) s.heap H locs → lv_has ls 6 [(0, .ref a0), (1, .int x1), (2, .int w2), (3, .int w3)] → W p l e (hp_rm 1 22 0 0) s m [.ref a0, .int x1].toArray below meth c H locs 0 0 (MQ below (hp_Qi G rq zq) [.ref a0, .int x1].toArray s 0 0 (hp_A G)) (F0 m 48 ls []) := by
        intro w2 w3 z H locs ls h hP hS hl
        unfold f_X7_style_B48 at h
        refine lv_iconst (v := 1) hx hb dX7_style_48 (by decide) ?_
        refine lv_goto (tgt := 53) hx hb dX7_style_49 (by decide) ?_
        exact B53 w2 w3 1 z _ _ _ h hP hS (lv_sub hl [0, 1, 2, 3] rfl)
      intro w2 w3 z H locs ls h hP hS hl
      rw [f_X7_style_L16] at h
      refine lv_iload_n hx hb dX7_style_16 rfl (lv_at hl 3 rfl) ?_
      refine lv_bipush (v := 14) hx hb dX7_style_17 (by decide) ?_
      refine lv_icmp_ge (tgt := 151) hx hb dX7_style_19 (by decide) (fun hc => ?_) (fun hc => ?_)
      · replace h := ho_ip hc h
        exact B151 w2 z _ _ _ h hP hS (lv_sub hl [0, 1, 2] rfl)
      · replace h := ho_in hc h
        refine lv_iload_n hx hb dX7_style_22 rfl (lv_at hl 3 rfl) ?_
        refine lv_if_eq (tgt := 48) hx hb dX7_style_23 (by decide) (fun hc => ?_) (fun hc => ?_)
        · replace h := ho_ip hc h
          exact B48 w2 w3 z _ _ _ h hP hS (lv_sub hl [0, 1, 2, 3] rfl)
        · replace h := ho_in hc h
          refine lv_iload_n hx hb dX7_style_26 rfl (lv_at hl 3 rfl) ?_
          refine lv_iconst (v := 2) hx hb dX7_style_27 (by decide) ?_
          refine lv_icmp_eq (tgt := 48) hx hb dX7_style_28 (by decide) (fun hc => ?_) (fun hc => ?_)
          · replace h := ho_ip hc h
            exact B48 w2 w3 z _ _ _ h hP hS (lv_sub hl [0, 1, 2, 3] rfl)
          · replace h := ho_in hc h
            refine lv_iload_n hx hb dX7_style_31 rfl (lv_at hl 3 rfl) ?_
            refine lv_iconst (v := 3) hx hb dX7_style_32 (by decide) ?_
            refine lv_icmp_eq (tgt := 48) hx hb dX7_style_33 (by decide) (fun hc => ?_) (fun hc => ?_)
            · replace h := ho_ip hc h
              exact B48 w2 w3 z _ _ _ h hP hS (lv_sub hl [0, 1, 2, 3] rfl)
            · replace h := ho_in hc h
              refine lv_iload_n hx hb dX7_style_36 rfl (lv_at hl 3 rfl) ?_
              refine lv_bipush (v := 8) hx hb dX7_style_37 (by decide) ?_
              refine lv_icmp_eq (tgt := 48) hx hb dX7_style_39 (by decide) (fun hc => ?_) (fun hc => ?_)
              · replace h := ho_ip hc h
                exact B48 w2 w3 z _ _ _ h hP hS (lv_sub hl [0, 1, 2, 3] rfl)
              · replace h := ho_in hc h
                refine lv_iload_n hx hb dX7_style_42 rfl (lv_at hl 3 rfl) ?_
                refine lv_bipush (v := 9) hx hb dX7_style_43 (by decide) ?_
                refine lv_icmp_ne (tgt := 52) hx hb dX7_style_45 (by decide) (fun hc => ?_) (fun hc => ?_)
                · replace h := ho_in hc h
                  refine lv_iconst (v := 0) hx hb dX7_style_52 (by decide) ?_
                  exact B53 w2 w3 0 z _ _ _ h hP hS (lv_sub hl [0, 1, 2, 3] rfl)
                · replace h := ho_ip hc h
                  exact B48 w2 w3 z _ _ _ h hP hS (lv_sub hl [0, 1, 2, 3] rfl)
  unfold f_X7_style at h
  refine lv_iload_n hx hb dX7_style_0 rfl (lv_at hl 1 rfl) ?_
  refine lv_iconst (v := 0) hx hb dX7_style_1 (by decide) ?_
  refine lv_iconst (v := 4) hx hb dX7_style_2 (by decide) ?_
  obtain ⟨⟨v1, z⟩, q, h⟩ := ho_bd h
  refine hw_ci hS (hp_runS (As := [.int x1, .int 0, .int 4]) (rest := []) X hP hS hl.1 kX7_81 m3_183 (c_X7_isIn l G fu x1 0 4 _ _ _ q) rfl (Nat.le_of_ble_eq_true rfl) ⟨⟨Nat.le_of_ble_eq_true rfl, Nat.le_of_ble_eq_true rfl⟩, Nat.le_of_ble_eq_true rfl, Nat.le_of_ble_eq_true rfl⟩ dX7_style_3) (fun H locs hP hS => ?_)
  refine lv_if_ne (tgt := 12) hx hb dX7_style_6 (by decide) (fun hc => ?_) (fun hc => ?_)
  · replace h := ho_in hc h
    refine lv_iconst (v := 0) hx hb dX7_style_12 (by decide) ?_
    refine lv_istore_n (lv' := [(2, .int 0), (0, .ref a0), (1, .int x1)]) hx hb dX7_style_13 rfl hl (by decide) rfl (fun ls hl => ?_)
    refine lv_iconst (v := 0) hx hb dX7_style_14 (by decide) ?_
    refine lv_istore_n (lv' := [(3, .int 0), (2, .int 0), (0, .ref a0), (1, .int x1)]) hx hb dX7_style_15 rfl hl (by decide) rfl (fun ls hl => ?_)
    exact L16 fu 0 0 z _ _ _ h hP hS (lv_sub hl [2, 3, 1, 0] rfl)
  · replace h := ho_ip hc h
    refine lv_bipush (v := (-2)) hx hb dX7_style_9 (by decide) ?_
    exact hw_iret X hP hS hr hlocks h dX7_style_11
def f_X7_key (fu : Nat) (a0 : Nat) (x1 : Int32) (z : hp_S) : Option (Int32 × hp_S) :=
  (f_X7_isIn fu x1 (-7) 7 z).bind fun ⟨v1, z⟩ =>
  if v1 = 0 then (
    some ((-100), z)
  ) else (
    (ho_gi 7 a0 8 z).bind fun v2 =>
    (ho_pi 7 a0 8 x1 z).bind fun z =>
    some (v2, z)
  )
set_option maxHeartbeats 4000000 in
set_option maxRecDepth 100000 in
theorem c_X7_key (l : Launch) (G : hp_G) (fu : Nat) (a0 : Nat) (x1 : Int32) (z : hp_S) (rq : Int32) (zq : hp_S) (h : f_X7_key fu a0 x1 z = some (rq, zq)) : hp_M l G yX7_key cX7_key 3 (some .int) 1 22 0 0 [.ref a0, .int x1] z (hp_Qi G rq zq) := by
  refine hp_M.of (by decide) (Nat.le_of_ble_eq_true rfl) ?_
  intro p e s m below meth c X hr hlocks hnm hP hS ls hl
  have X : hp_C G cX7_key RX7 3 p s m c := X
  have hl : lv_has ls 3 [(0, .ref a0), (1, .int x1)] := hl
  have hx := X.1
  have hb := X.2.1
  unfold f_X7_key at h
  refine lv_iload_n hx hb dX7_key_0 rfl (lv_at hl 1 rfl) ?_
  refine lv_bipush (v := (-7)) hx hb dX7_key_1 (by decide) ?_
  refine lv_bipush (v := 7) hx hb dX7_key_3 (by decide) ?_
  obtain ⟨⟨v1, z⟩, q, h⟩ := ho_bd h
  refine hw_ci hS (hp_runS (As := [.int x1, .int (-7), .int 7]) (rest := []) X hP hS hl.1 kX7_81 m3_183 (c_X7_isIn l G fu x1 (-7) 7 _ _ _ q) rfl (Nat.le_of_ble_eq_true rfl) ⟨⟨Nat.le_of_ble_eq_true rfl, Nat.le_of_ble_eq_true rfl⟩, Nat.le_of_ble_eq_true rfl, Nat.le_of_ble_eq_true rfl⟩ dX7_key_5) (fun H locs hP hS => ?_)
  refine lv_if_ne (tgt := 14) hx hb dX7_key_8 (by decide) (fun hc => ?_) (fun hc => ?_)
  · replace h := ho_in hc h
    refine lv_aload_n hx hb dX7_key_14 rfl (lv_at hl 0 rfl) ?_
    obtain ⟨v2, q, h⟩ := ho_bd h
    refine hw_gi X hP LX7 fX7_63 rfl q dX7_key_15 ?_
    refine lv_istore_n (lv' := [(2, .int v2), (0, .ref a0), (1, .int x1)]) hx hb dX7_key_18 rfl hl (by decide) rfl (fun ls hl => ?_)
    refine lv_aload_n hx hb dX7_key_19 rfl (lv_at hl 1 rfl) ?_
    refine lv_iload_n hx hb dX7_key_20 rfl (lv_at hl 2 rfl) ?_
    obtain ⟨z, q, h⟩ := ho_bd h
    refine hw_pi X hP hS LX7 fX7_63 rfl rfl rfl q dX7_key_21 (fun H locs hP hS => ?_)
    refine lv_iload_n hx hb dX7_key_24 rfl (lv_at hl 0 rfl) ?_
    exact hw_iret X hP hS hr hlocks h dX7_key_25
  · replace h := ho_ip hc h
    refine lv_bipush (v := (-100)) hx hb dX7_key_11 (by decide) ?_
    exact hw_iret X hP hS hr hlocks h dX7_key_13
def f_X7_scale_B16 (fu : Nat) (x0 : Int32) (s0 : Int32) (z : hp_S) : Option (Int32 × hp_S) :=
  some (s0, z)
def f_X7_scale (fu : Nat) (x0 : Int32) (z : hp_S) : Option (Int32 × hp_S) :=
  if 3 ≤ x0 then (
    f_X7_scale_B16 fu x0 ((2 * x0) - 1) z
  ) else (
    f_X7_scale_B16 fu x0 (2 * x0) z
  )
set_option maxHeartbeats 4000000 in
set_option maxRecDepth 100000 in
theorem c_X7_scale (l : Launch) (G : hp_G) (fu : Nat) (x0 : Int32) (z : hp_S) (rq : Int32) (zq : hp_S) (h : f_X7_scale fu x0 z = some (rq, zq)) : hp_M l G yX7_scale cX7_scale 1 (some .int) 0 0 0 0 [.int x0] z (hp_Qi G rq zq) := by
  refine hp_M.of (by decide) (Nat.le_of_ble_eq_true rfl) ?_
  intro p e s m below meth c X hr hlocks hnm hP hS ls hl
  have X : hp_C G cX7_scale RX7 1 p s m c := X
  have hl : lv_has ls 1 [(0, .int x0)] := hl
  have hx := X.1
  have hb := X.2.1
  have B16 : ∀ (s0 : Int32) (z : hp_S) (H : Heap) (locs : List Loc) (ls : Array Slot), f_X7_scale_B16 fu x0 s0 z = some (rq, zq) → hp_P G z H → va_S (hp_A G) s.heap H locs → lv_has ls 1 [(0, .int x0)] → W p l e (hp_rm 0 0 0 0) s m [.int x0].toArray below meth c H locs 0 0 (MQ below (hp_Qi G rq zq) [.int x0].toArray s 0 0 (hp_A G)) (F0 m 16 ls [.int s0]) := by
    intro s0 z H locs ls h hP hS hl
    unfold f_X7_scale_B16 at h
    exact hw_iret X hP hS hr hlocks h dX7_scale_16
  unfold f_X7_scale at h
  refine lv_iload_n hx hb dX7_scale_0 rfl (lv_at hl 0 rfl) ?_
  refine lv_iconst (v := 3) hx hb dX7_scale_1 (by decide) ?_
  refine lv_icmp_ge (tgt := 11) hx hb dX7_scale_2 (by decide) (fun hc => ?_) (fun hc => ?_)
  · replace h := ho_ip hc h
    refine lv_iconst (v := 2) hx hb dX7_scale_11 (by decide) ?_
    refine lv_iload_n hx hb dX7_scale_12 rfl (lv_at hl 0 rfl) ?_
    refine lv_imul hx hb dX7_scale_13 ?_
    refine lv_iconst (v := 1) hx hb dX7_scale_14 (by decide) ?_
    refine lv_isub hx hb dX7_scale_15 ?_
    exact B16 ((2 * x0) - 1) z _ _ _ h hP hS (lv_sub hl [0] rfl)
  · replace h := ho_in hc h
    refine lv_iconst (v := 2) hx hb dX7_scale_5 (by decide) ?_
    refine lv_iload_n hx hb dX7_scale_6 rfl (lv_at hl 0 rfl) ?_
    refine lv_imul hx hb dX7_scale_7 ?_
    refine lv_goto (tgt := 16) hx hb dX7_scale_8 (by decide) ?_
    exact B16 (2 * x0) z _ _ _ h hP hS (lv_sub hl [0] rfl)
def f_X7_heightOf (fu : Nat) (a0 : Nat) (x1 : Int32) (z : hp_S) : Option (Int32 × hp_S) :=
  (ho_gr 7 a0 3 z).bind fun r1 =>
  (ho_li 1 r1 x1 z).bind fun v2 =>
  (ho_dv v2 7).bind fun v3 =>
  (ho_gr 7 a0 3 z).bind fun r4 =>
  (ho_li 1 r4 x1 z).bind fun v5 =>
  (ho_rm v5 7).bind fun v6 =>
  (f_X7_scale fu v6 z).bind fun ⟨v7, z⟩ =>
  (ho_gr 7 a0 4 z).bind fun r8 =>
  (ho_li 1 r8 x1 z).bind fun v9 =>
  some ((((12 * v3) + v7) + v9), z)
set_option maxHeartbeats 4000000 in
set_option maxRecDepth 100000 in
theorem c_X7_heightOf (l : Launch) (G : hp_G) (fu : Nat) (a0 : Nat) (x1 : Int32) (z : hp_S) (rq : Int32) (zq : hp_S) (h : f_X7_heightOf fu a0 x1 z = some (rq, zq)) : hp_M l G yX7_heightOf cX7_heightOf 2 (some .int) 1 20 0 0 [.ref a0, .int x1] z (hp_Qi G rq zq) := by
  refine hp_M.of (by decide) (Nat.le_of_ble_eq_true rfl) ?_
  intro p e s m below meth c X hr hlocks hnm hP hS ls hl
  have X : hp_C G cX7_heightOf RX7 2 p s m c := X
  have hl : lv_has ls 2 [(0, .ref a0), (1, .int x1)] := hl
  have hx := X.1
  have hb := X.2.1
  unfold f_X7_heightOf at h
  refine lv_bipush (v := 12) hx hb dX7_heightOf_0 (by decide) ?_
  refine lv_aload_n hx hb dX7_heightOf_2 rfl (lv_at hl 0 rfl) ?_
  obtain ⟨r1, q, h⟩ := ho_bd h
  refine hw_gr X hP LX7 fX7_16 rfl q dX7_heightOf_3 ?_
  refine lv_iload_n hx hb dX7_heightOf_6 rfl (lv_at hl 1 rfl) ?_
  obtain ⟨v2, q, h⟩ := ho_bd h
  refine hw_li X hP q dX7_heightOf_7 ?_
  refine lv_bipush (v := 7) hx hb dX7_heightOf_8 (by decide) ?_
  obtain ⟨v3, q, h⟩ := ho_bd h
  refine hw_dv X q dX7_heightOf_10 ?_
  refine lv_imul hx hb dX7_heightOf_11 ?_
  refine lv_aload_n hx hb dX7_heightOf_12 rfl (lv_at hl 0 rfl) ?_
  obtain ⟨r4, q, h⟩ := ho_bd h
  refine hw_gr X hP LX7 fX7_16 rfl q dX7_heightOf_13 ?_
  refine lv_iload_n hx hb dX7_heightOf_16 rfl (lv_at hl 1 rfl) ?_
  obtain ⟨v5, q, h⟩ := ho_bd h
  refine hw_li X hP q dX7_heightOf_17 ?_
  refine lv_bipush (v := 7) hx hb dX7_heightOf_18 (by decide) ?_
  obtain ⟨v6, q, h⟩ := ho_bd h
  refine hw_rm X q dX7_heightOf_20 ?_
  obtain ⟨⟨v7, z⟩, q, h⟩ := ho_bd h
  refine hw_ci hS (hp_runS (As := [.int v6]) (rest := [.int (12 * v3)]) X hP hS hl.1 kX7_93 m3_218 (c_X7_scale l G fu v6 _ _ _ q) rfl (Nat.le_of_ble_eq_true rfl) ⟨⟨Nat.le_of_ble_eq_true rfl, Nat.le_of_ble_eq_true rfl⟩, Nat.le_of_ble_eq_true rfl, Nat.le_of_ble_eq_true rfl⟩ dX7_heightOf_21) (fun H locs hP hS => ?_)
  refine lv_iadd hx hb dX7_heightOf_24 ?_
  refine lv_aload_n hx hb dX7_heightOf_25 rfl (lv_at hl 0 rfl) ?_
  obtain ⟨r8, q, h⟩ := ho_bd h
  refine hw_gr X hP LX7 fX7_19 rfl q dX7_heightOf_26 ?_
  refine lv_iload_n hx hb dX7_heightOf_29 rfl (lv_at hl 1 rfl) ?_
  obtain ⟨v9, q, h⟩ := ho_bd h
  refine hw_li X hP q dX7_heightOf_30 ?_
  refine lv_iadd hx hb dX7_heightOf_31 ?_
  exact hw_iret X hP hS hr hlocks h dX7_heightOf_32
def f_X7_range_B29 (fu : Nat) (a0 : Nat) (x1 : Int32) (x2 : Int32) (x3 : Int32) (z : hp_S) : Option (Int32 × hp_S) :=
  some ((-2), z)
def f_X7_range_B113 (fu : Nat) (a0 : Nat) (x1 : Int32) (x2 : Int32) (x3 : Int32) (w4 : Int32) (z : hp_S) : Option (Int32 × hp_S) :=
  some (w4, z)
def f_X7_range_B104 (fu : Nat) (a0 : Nat) (x1 : Int32) (x2 : Int32) (x3 : Int32) (ag : Int32 → Int32 → hp_S → Option (Int32 × hp_S)) (kk : Int32 → hp_S → Option (Int32 × hp_S)) (w5 : Int32) (s0 : Int32) (s1 : Int32) (z : hp_S) : Option (Int32 × hp_S) :=
  (ho_id (s1 + s0)).bind fun v11 =>
  (ho_id (w5 + 1)).bind fun v12 =>
  ag v11 v12 z
def f_X7_range_B103 (fu : Nat) (a0 : Nat) (x1 : Int32) (x2 : Int32) (x3 : Int32) (ag : Int32 → Int32 → hp_S → Option (Int32 × hp_S)) (kk : Int32 → hp_S → Option (Int32 × hp_S)) (w5 : Int32) (s0 : Int32) (z : hp_S) : Option (Int32 × hp_S) :=
  f_X7_range_B104 fu a0 x1 x2 x3 ag kk w5 0 s0 z
def f_X7_range_L52 (fu : Nat) (a0 : Nat) (x1 : Int32) (x2 : Int32) (x3 : Int32) (kk : Int32 → hp_S → Option (Int32 × hp_S)) : Nat → Int32 → Int32 → hp_S → Option (Int32 × hp_S)
  | 0, _, _, _ => none
  | n + 1, w4, w5, z =>
    (ho_gr 7 a0 1 z).bind fun r6 =>
    (ho_li 1 r6 x1 z).bind fun v7 =>
    if v7 ≤ w5 then (
      kk w4 z
    ) else (
      (ho_id ((24 * x1) + w5)).bind fun v8 =>
      (ho_gr 7 a0 3 z).bind fun r9 =>
      (ho_li 1 r9 v8 z).bind fun v10 =>
      if v10 = (-1) then (
        f_X7_range_B103 fu a0 x1 x2 x3 (f_X7_range_L52 fu a0 x1 x2 x3 kk n) kk w5 w4 z
      ) else (
        (ho_is 7 a0 z).bind fun _ =>
        (f_X7_heightOf fu a0 v8 z).bind fun ⟨v13, z⟩ =>
        (f_X7_isIn fu v13 x2 x3 z).bind fun ⟨v14, z⟩ =>
        if v14 = 0 then (
          f_X7_range_B104 fu a0 x1 x2 x3 (f_X7_range_L52 fu a0 x1 x2 x3 kk n) kk w5 1 w4 z
        ) else (
          f_X7_range_B103 fu a0 x1 x2 x3 (f_X7_range_L52 fu a0 x1 x2 x3 kk n) kk w5 w4 z
        )
      )
    )
def f_X7_range (fu : Nat) (a0 : Nat) (x1 : Int32) (x2 : Int32) (x3 : Int32) (z : hp_S) : Option (Int32 × hp_S) :=
  (ho_is 7 a0 z).bind fun _ =>
  (f_X7_isVoice fu a0 x1 z).bind fun ⟨v1, z⟩ =>
  if v1 = 0 then (
    f_X7_range_B29 fu a0 x1 x2 x3  z
  ) else (
    (f_X7_isIn fu x2 (-2) 99 z).bind fun ⟨v2, z⟩ =>
    if v2 = 0 then (
      f_X7_range_B29 fu a0 x1 x2 x3  z
    ) else (
      (f_X7_isIn fu x3 x2 99 z).bind fun ⟨v3, z⟩ =>
      if v3 = 0 then (
        f_X7_range_B29 fu a0 x1 x2 x3  z
      ) else (
        (ho_gr 7 a0 5 z).bind fun r4 =>
        (ho_si r4 x1 x2 z).bind fun z =>
        (ho_gr 7 a0 6 z).bind fun r5 =>
        (ho_si r5 x1 x3 z).bind fun z =>
        f_X7_range_L52 fu a0 x1 x2 x3 (f_X7_range_B113 fu a0 x1 x2 x3) fu 0 0 z
      )
    )
  )
set_option maxHeartbeats 4000000 in
set_option maxRecDepth 100000 in
theorem c_X7_range (l : Launch) (G : hp_G) (fu : Nat) (a0 : Nat) (x1 : Int32) (x2 : Int32) (x3 : Int32) (z : hp_S) (rq : Int32) (zq : hp_S) (h : f_X7_range fu a0 x1 x2 x3 z = some (rq, zq)) : hp_M l G yX7_range cX7_range 7 (some .int) 2 43 0 0 [.ref a0, .int x1, .int x2, .int x3] z (hp_Qi G rq zq) := by
  refine hp_M.of (by decide) (Nat.le_of_ble_eq_true rfl) ?_
  intro p e s m below meth c X hr hlocks hnm hP hS ls hl
  have X : hp_C G cX7_range RX7 7 p s m c := X
  have hl : lv_has ls 7 [(0, .ref a0), (1, .int x1), (2, .int x2), (3, .int x3)] := hl
  have hx := X.1
  have hb := X.2.1
  have B29 : ∀ (z : hp_S) (H : Heap) (locs : List Loc) (ls : Array Slot), f_X7_range_B29 fu a0 x1 x2 x3 z = some (rq, zq) → hp_P G z H → va_S (hp_A G) s.heap H locs → lv_has ls 7 [(0, .ref a0), (1, .int x1), (2, .int x2), (3, .int x3)] → W p l e (hp_rm 2 43 0 0) s m [.ref a0, .int x1, .int x2, .int x3].toArray below meth c H locs 0 0 (MQ below (hp_Qi G rq zq) [.ref a0, .int x1, .int x2, .int x3].toArray s 0 0 (hp_A G)) (F0 m 29 ls []) := by
    intro z H locs ls h hP hS hl
    unfold f_X7_range_B29 at h
    refine lv_bipush (v := (-2)) hx hb dX7_range_29 (by decide) ?_
    exact hw_iret X hP hS hr hlocks h dX7_range_31
  have B113 : ∀ (w4 : Int32) (z : hp_S) (H : Heap) (locs : List Loc) (ls : Array Slot), f_X7_range_B113 fu a0 x1 x2 x3 w4 z = some (rq, zq) → hp_P G z H → va_S (hp_A G) s.heap H locs → lv_has ls 7 [(0, .ref a0), (1, .int x1), (2, .int x2), (3, .int x3), (4, .int w4)] → W p l e (hp_rm 2 43 0 0) s m [.ref a0, .int x1, .int x2, .int x3].toArray below meth c H locs 0 0 (MQ below (hp_Qi G rq zq) [.ref a0, .int x1, .int x2, .int x3].toArray s 0 0 (hp_A G)) (F0 m 113 ls []) := by
    intro w4 z H locs ls h hP hS hl
    unfold f_X7_range_B113 at h
    refine lv_iload hx hb dX7_range_113 (lv_at hl 4 rfl) ?_
    exact hw_iret X hP hS hr hlocks h dX7_range_115
  have L52 : ∀ (n52 : Nat) (w4 : Int32) (w5 : Int32) (z : hp_S) (H : Heap) (locs : List Loc) (ls : Array Slot), f_X7_range_L52 fu a0 x1 x2 x3 (f_X7_range_B113 fu a0 x1 x2 x3) n52 w4 w5 z = some (rq, zq) → hp_P G z H → va_S (hp_A G) s.heap H locs → lv_has ls 7 [(0, .ref a0), (1, .int x1), (2, .int x2), (3, .int x3), (4, .int w4), (5, .int w5)] → W p l e (hp_rm 2 43 0 0) s m [.ref a0, .int x1, .int x2, .int x3].toArray below meth c H locs 0 0 (MQ below (hp_Qi G rq zq) [.ref a0, .int x1, .int x2, .int x3].toArray s 0 0 (hp_A G)) (F0 m 52 ls []) := by
    intro n52
    induction n52 with
    | zero =>
      intro w4 w5 z H locs ls h
      exact nomatch (h : (none : Option (Int32 × hp_S)) = some (rq, zq))
    | succ n52 ih52 =>
      have B104 : ∀ (w5 : Int32) (s0 : Int32) (s1 : Int32) (z : hp_S) (H : Heap) (locs : List Loc) (ls : Array Slot), f_X7_range_B104 fu a0 x1 x2 x3 (f_X7_range_L52 fu a0 x1 x2 x3 (f_X7_range_B113 fu a0 x1 x2 x3) n52) (f_X7_range_B113 fu a0 x1 x2 x3) w5 s0 s1 z = some (rq, zq) → hp_P G z H → va_S (hp_A G) s.heap H locs → lv_has ls 7 [(0, .ref a0), (1, .int x1), (2, .int x2), (3, .int x3), (5, .int w5)] → W p l e (hp_rm 2 43 0 0) s m [.ref a0, .int x1, .int x2, .int x3].toArray below meth c H locs 0 0 (MQ below (hp_Qi G rq zq) [.ref a0, .int x1, .int x2, .int x3].toArray s 0 0 (hp_A G)) (F0 m 104 ls [.int s0, .int s1]) := by
        intro w5 s0 s1 z H locs ls h hP hS hl
        unfold f_X7_range_B104 at h
        refine lv_iadd hx hb dX7_range_104 ?_
        obtain ⟨v11, q, h⟩ := ho_bd h
        refine hw_id q ?_
        refine lv_istore (lv' := [(4, .int v11), (0, .ref a0), (1, .int x1), (2, .int x2), (3, .int x3), (5, .int w5)]) hx hb dX7_range_105 hl (by decide) rfl (fun ls hl => ?_)
        obtain ⟨v12, q, h⟩ := ho_bd h
        refine lv_iinc (v := v12) (lv' := [(5, .int v12), (4, .int v11), (0, .ref a0), (1, .int x1), (2, .int x2), (3, .int x3)]) hx hb dX7_range_107 hl (k := 5) rfl (Option.some.inj q) (by decide) rfl (fun ls hl => ?_)
        refine lv_goto (tgt := 52) hx hb dX7_range_110 (by decide) ?_
        exact ih52 v11 v12 z _ _ _ h hP hS (lv_sub hl [2, 3, 4, 5, 1, 0] rfl)
      have B103 : ∀ (w5 : Int32) (s0 : Int32) (z : hp_S) (H : Heap) (locs : List Loc) (ls : Array Slot), f_X7_range_B103 fu a0 x1 x2 x3 (f_X7_range_L52 fu a0 x1 x2 x3 (f_X7_range_B113 fu a0 x1 x2 x3) n52) (f_X7_range_B113 fu a0 x1 x2 x3) w5 s0 z = some (rq, zq) → hp_P G z H → va_S (hp_A G) s.heap H locs → lv_has ls 7 [(0, .ref a0), (1, .int x1), (2, .int x2), (3, .int x3), (5, .int w5)] → W p l e (hp_rm 2 43 0 0) s m [.ref a0, .int x1, .int x2, .int x3].toArray below meth c H locs 0 0 (MQ below (hp_Qi G rq zq) [.ref a0, .int x1, .int x2, .int x3].toArray s 0 0 (hp_A G)) (F0 m 103 ls [.int s0]) := by
        intro w5 s0 z H locs ls h hP hS hl
        unfold f_X7_range_B103 at h
        refine lv_iconst (v := 0) hx hb dX7_range_103 (by decide) ?_
        exact B104 w5 0 s0 z _ _ _ h hP hS (lv_sub hl [0, 1, 2, 3, 4] rfl)
      intro w4 w5 z H locs ls h hP hS hl
      rw [f_X7_range_L52] at h
      refine lv_iload hx hb dX7_range_52 (lv_at hl 5 rfl) ?_
      refine lv_aload_n hx hb dX7_range_54 rfl (lv_at hl 0 rfl) ?_
      obtain ⟨r6, q, h⟩ := ho_bd h
      refine hw_gr X hP LX7 fX7_7 rfl q dX7_range_55 ?_
      refine lv_iload_n hx hb dX7_range_58 rfl (lv_at hl 1 rfl) ?_
      obtain ⟨v7, q, h⟩ := ho_bd h
      refine hw_li X hP q dX7_range_59 ?_
      refine lv_icmp_ge (tgt := 113) hx hb dX7_range_60 (by decide) (fun hc => ?_) (fun hc => ?_)
      · replace h := ho_ip hc h
        exact B113 w4 z _ _ _ h hP hS (lv_sub hl [0, 1, 2, 3, 4] rfl)
      · replace h := ho_in hc h
        refine lv_bipush (v := 24) hx hb dX7_range_63 (by decide) ?_
        refine lv_iload_n hx hb dX7_range_65 rfl (lv_at hl 1 rfl) ?_
        refine lv_imul hx hb dX7_range_66 ?_
        refine lv_iload hx hb dX7_range_67 (lv_at hl 5 rfl) ?_
        refine lv_iadd hx hb dX7_range_69 ?_
        obtain ⟨v8, q, h⟩ := ho_bd h
        refine hw_id q ?_
        refine lv_istore (lv' := [(6, .int v8), (0, .ref a0), (1, .int x1), (2, .int x2), (3, .int x3), (4, .int w4), (5, .int w5)]) hx hb dX7_range_70 hl (by decide) rfl (fun ls hl => ?_)
        refine lv_iload hx hb dX7_range_72 (lv_at hl 5 rfl) ?_
        refine lv_aload_n hx hb dX7_range_74 rfl (lv_at hl 1 rfl) ?_
        obtain ⟨r9, q, h⟩ := ho_bd h
        refine hw_gr X hP LX7 fX7_16 rfl q dX7_range_75 ?_
        refine lv_iload hx hb dX7_range_78 (lv_at hl 0 rfl) ?_
        obtain ⟨v10, q, h⟩ := ho_bd h
        refine hw_li X hP q dX7_range_80 ?_
        refine lv_iconst (v := (-1)) hx hb dX7_range_81 (by decide) ?_
        refine lv_icmp_eq (tgt := 103) hx hb dX7_range_82 (by decide) (fun hc => ?_) (fun hc => ?_)
        · replace h := ho_ip hc h
          exact B103 w5 w4 z _ _ _ h hP hS (lv_sub hl [1, 2, 3, 4, 6] rfl)
        · replace h := ho_in hc h
          refine lv_aload_n hx hb dX7_range_85 rfl (lv_at hl 1 rfl) ?_
          refine lv_iload hx hb dX7_range_86 (lv_at hl 0 rfl) ?_
          obtain ⟨_, hs, h⟩ := ho_bd h
          obtain ⟨⟨v13, z⟩, q, h⟩ := ho_bd h
          refine hw_ci hS (hp_runV (As := [.int v8]) (rest := [.int w4]) X hP hS hl.1 LX7 (ho_is_s hs) kX7_97 ⟨m3_215, mp_23⟩ (c_X7_heightOf l G fu a0 v8 _ _ _ q) rfl (Nat.le_of_ble_eq_true rfl) ⟨⟨Nat.le_of_ble_eq_true rfl, Nat.le_of_ble_eq_true rfl⟩, Nat.le_of_ble_eq_true rfl, Nat.le_of_ble_eq_true rfl⟩ dX7_range_88) (fun H locs hP hS => ?_)
          refine lv_iload_n hx hb dX7_range_91 rfl (lv_at hl 3 rfl) ?_
          refine lv_iload_n hx hb dX7_range_92 rfl (lv_at hl 4 rfl) ?_
          obtain ⟨⟨v14, z⟩, q, h⟩ := ho_bd h
          refine hw_ci hS (hp_runS (As := [.int v13, .int x2, .int x3]) (rest := [.int w4]) X hP hS hl.1 kX7_81 m3_183 (c_X7_isIn l G fu v13 x2 x3 _ _ _ q) rfl (Nat.le_of_ble_eq_true rfl) ⟨⟨Nat.le_of_ble_eq_true rfl, Nat.le_of_ble_eq_true rfl⟩, Nat.le_of_ble_eq_true rfl, Nat.le_of_ble_eq_true rfl⟩ dX7_range_93) (fun H locs hP hS => ?_)
          refine lv_if_ne (tgt := 103) hx hb dX7_range_96 (by decide) (fun hc => ?_) (fun hc => ?_)
          · replace h := ho_in hc h
            exact B103 w5 w4 z _ _ _ h hP hS (lv_sub hl [1, 2, 3, 4, 6] rfl)
          · replace h := ho_ip hc h
            refine lv_iconst (v := 1) hx hb dX7_range_99 (by decide) ?_
            refine lv_goto (tgt := 104) hx hb dX7_range_100 (by decide) ?_
            exact B104 w5 1 w4 z _ _ _ h hP hS (lv_sub hl [1, 2, 3, 4, 6] rfl)
  unfold f_X7_range at h
  refine lv_aload_n hx hb dX7_range_0 rfl (lv_at hl 0 rfl) ?_
  refine lv_iload_n hx hb dX7_range_1 rfl (lv_at hl 1 rfl) ?_
  obtain ⟨_, hs, h⟩ := ho_bd h
  obtain ⟨⟨v1, z⟩, q, h⟩ := ho_bd h
  refine hw_ci hS (hp_runV (As := [.int x1]) (rest := []) X hP hS hl.1 LX7 (ho_is_s hs) kX7_85 ⟨m3_180, mp_21⟩ (c_X7_isVoice l G fu a0 x1 _ _ _ q) rfl (Nat.le_of_ble_eq_true rfl) ⟨⟨Nat.le_of_ble_eq_true rfl, Nat.le_of_ble_eq_true rfl⟩, Nat.le_of_ble_eq_true rfl, Nat.le_of_ble_eq_true rfl⟩ dX7_range_2) (fun H locs hP hS => ?_)
  refine lv_if_eq (tgt := 29) hx hb dX7_range_5 (by decide) (fun hc => ?_) (fun hc => ?_)
  · replace h := ho_ip hc h
    exact B29 z _ _ _ h hP hS (lv_sub hl [0, 1, 2, 3] rfl)
  · replace h := ho_in hc h
    refine lv_iload_n hx hb dX7_range_8 rfl (lv_at hl 2 rfl) ?_
    refine lv_bipush (v := (-2)) hx hb dX7_range_9 (by decide) ?_
    refine lv_bipush (v := 99) hx hb dX7_range_11 (by decide) ?_
    obtain ⟨⟨v2, z⟩, q, h⟩ := ho_bd h
    refine hw_ci hS (hp_runS (As := [.int x2, .int (-2), .int 99]) (rest := []) X hP hS hl.1 kX7_81 m3_183 (c_X7_isIn l G fu x2 (-2) 99 _ _ _ q) rfl (Nat.le_of_ble_eq_true rfl) ⟨⟨Nat.le_of_ble_eq_true rfl, Nat.le_of_ble_eq_true rfl⟩, Nat.le_of_ble_eq_true rfl, Nat.le_of_ble_eq_true rfl⟩ dX7_range_13) (fun H locs hP hS => ?_)
    refine lv_if_eq (tgt := 29) hx hb dX7_range_16 (by decide) (fun hc => ?_) (fun hc => ?_)
    · replace h := ho_ip hc h
      exact B29 z _ _ _ h hP hS (lv_sub hl [0, 1, 2, 3] rfl)
    · replace h := ho_in hc h
      refine lv_iload_n hx hb dX7_range_19 rfl (lv_at hl 3 rfl) ?_
      refine lv_iload_n hx hb dX7_range_20 rfl (lv_at hl 2 rfl) ?_
      refine lv_bipush (v := 99) hx hb dX7_range_21 (by decide) ?_
      obtain ⟨⟨v3, z⟩, q, h⟩ := ho_bd h
      refine hw_ci hS (hp_runS (As := [.int x3, .int x2, .int 99]) (rest := []) X hP hS hl.1 kX7_81 m3_183 (c_X7_isIn l G fu x3 x2 99 _ _ _ q) rfl (Nat.le_of_ble_eq_true rfl) ⟨⟨Nat.le_of_ble_eq_true rfl, Nat.le_of_ble_eq_true rfl⟩, Nat.le_of_ble_eq_true rfl, Nat.le_of_ble_eq_true rfl⟩ dX7_range_23) (fun H locs hP hS => ?_)
      refine lv_if_ne (tgt := 32) hx hb dX7_range_26 (by decide) (fun hc => ?_) (fun hc => ?_)
      · replace h := ho_in hc h
        refine lv_aload_n hx hb dX7_range_32 rfl (lv_at hl 0 rfl) ?_
        obtain ⟨r4, q, h⟩ := ho_bd h
        refine hw_gr X hP LX7 fX7_22 rfl q dX7_range_33 ?_
        refine lv_iload_n hx hb dX7_range_36 rfl (lv_at hl 1 rfl) ?_
        refine lv_iload_n hx hb dX7_range_37 rfl (lv_at hl 2 rfl) ?_
        obtain ⟨z, q, h⟩ := ho_bd h
        refine hw_si X hP hS q dX7_range_38 (fun H locs hP hS => ?_)
        refine lv_aload_n hx hb dX7_range_39 rfl (lv_at hl 0 rfl) ?_
        obtain ⟨r5, q, h⟩ := ho_bd h
        refine hw_gr X hP LX7 fX7_25 rfl q dX7_range_40 ?_
        refine lv_iload_n hx hb dX7_range_43 rfl (lv_at hl 1 rfl) ?_
        refine lv_iload_n hx hb dX7_range_44 rfl (lv_at hl 3 rfl) ?_
        obtain ⟨z, q, h⟩ := ho_bd h
        refine hw_si X hP hS q dX7_range_45 (fun H locs hP hS => ?_)
        refine lv_iconst (v := 0) hx hb dX7_range_46 (by decide) ?_
        refine lv_istore (lv' := [(4, .int 0), (0, .ref a0), (1, .int x1), (2, .int x2), (3, .int x3)]) hx hb dX7_range_47 hl (by decide) rfl (fun ls hl => ?_)
        refine lv_iconst (v := 0) hx hb dX7_range_49 (by decide) ?_
        refine lv_istore (lv' := [(5, .int 0), (4, .int 0), (0, .ref a0), (1, .int x1), (2, .int x2), (3, .int x3)]) hx hb dX7_range_50 hl (by decide) rfl (fun ls hl => ?_)
        exact L52 fu 0 0 z _ _ _ h hP hS (lv_sub hl [2, 3, 4, 5, 1, 0] rfl)
      · replace h := ho_ip hc h
        exact B29 z _ _ _ h hP hS (lv_sub hl [0, 1, 2, 3] rfl)
