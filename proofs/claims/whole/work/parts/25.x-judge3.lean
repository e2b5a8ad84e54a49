def f_X3_lookAtPair_B112 (fu : Nat) (a0 : Nat) (z : hp_S) : Option hp_S :=
  some z
def f_X3_lookAtPair_B106 (fu : Nat) (a0 : Nat) (ag : Int32 → hp_S → Option hp_S) (kk : hp_S → Option hp_S) (w1 : Int32) (z : hp_S) : Option hp_S :=
  (ho_id (w1 + 1)).bind fun v4 =>
  ag v4 z
def f_X3_lookAtPair_B97 (fu : Nat) (a0 : Nat) (ag : Int32 → Int32 → hp_S → Option hp_S) (kk : Int32 → hp_S → Option hp_S) (w1 : Int32) (w2 : Int32) (s0 : Int32) (s1 : Int32) (s2 : Int32) (s3 : Int32) (s4 : Nat) (z : hp_S) : Option hp_S :=
  (ho_is 3 s4 z).bind fun _ =>
  (f_X3_between fu s4 s3 s2 s1 s0 z).bind fun z =>
  (ho_id (w2 + 1)).bind fun v6 =>
  ag w1 v6 z
def f_X3_lookAtPair_B96 (fu : Nat) (a0 : Nat) (ag : Int32 → Int32 → hp_S → Option hp_S) (kk : Int32 → hp_S → Option hp_S) (w1 : Int32) (w2 : Int32) (s0 : Int32) (s1 : Int32) (s2 : Int32) (s3 : Nat) (z : hp_S) : Option hp_S :=
  f_X3_lookAtPair_B97 fu a0 ag kk w1 w2 0 s0 s1 s2 s3 z
def f_X3_lookAtPair_L65 (fu : Nat) (a0 : Nat) (kk : Int32 → hp_S → Option hp_S) : Nat → Int32 → Int32 → hp_S → Option hp_S
  | 0, _, _, _ => none
  | n + 1, w1, w2, z =>
    (ho_gi 3 a0 4 z).bind fun v5 =>
    if v5 ≤ w2 then (
      kk w1 z
    ) else (
      if w1 = w2 then (
        f_X3_lookAtPair_B96 fu a0 (f_X3_lookAtPair_L65 fu a0 kk n) kk w1 w2 w2 w1 11 a0 z
      ) else (
        (ho_is 3 a0 z).bind fun _ =>
        (f_X3_isCrossRelation fu a0 w1 w2 z).bind fun ⟨v7, z⟩ =>
        if v7 = 0 then (
          f_X3_lookAtPair_B96 fu a0 (f_X3_lookAtPair_L65 fu a0 kk n) kk w1 w2 w2 w1 11 a0 z
        ) else (
          f_X3_lookAtPair_B97 fu a0 (f_X3_lookAtPair_L65 fu a0 kk n) kk w1 w2 1 w2 w1 11 a0 z
        )
      )
    )
def f_X3_lookAtPair_B63 (fu : Nat) (a0 : Nat) (ag : Int32 → hp_S → Option hp_S) (kk : hp_S → Option hp_S) (w1 : Int32) (z : hp_S) : Option hp_S :=
  f_X3_lookAtPair_L65 fu a0 (f_X3_lookAtPair_B106 fu a0 ag kk) fu w1 0 z
def f_X3_lookAtPair_B57 (fu : Nat) (a0 : Nat) (ag : Int32 → Int32 → hp_S → Option hp_S) (kk : Int32 → hp_S → Option hp_S) (w1 : Int32) (w2 : Int32) (z : hp_S) : Option hp_S :=
  (ho_id (w2 + 1)).bind fun v10 =>
  ag w1 v10 z
def f_X3_lookAtPair_L27 (fu : Nat) (a0 : Nat) (kk : Int32 → hp_S → Option hp_S) : Nat → Int32 → Int32 → hp_S → Option hp_S
  | 0, _, _, _ => none
  | n + 1, w1, w2, z =>
    (ho_gi 3 a0 4 z).bind fun v8 =>
    if v8 ≤ w2 then (
      kk w1 z
    ) else (
      (ho_is 3 a0 z).bind fun _ =>
      (f_X3_goes fu a0 w1 z).bind fun ⟨v9, z⟩ =>
      if v9 = 0 then (
        f_X3_lookAtPair_B57 fu a0 (f_X3_lookAtPair_L27 fu a0 kk n) kk w1 w2 z
      ) else (
        (ho_is 3 a0 z).bind fun _ =>
        (f_X3_goes fu a0 w2 z).bind fun ⟨v11, z⟩ =>
        if v11 = 0 then (
          f_X3_lookAtPair_B57 fu a0 (f_X3_lookAtPair_L27 fu a0 kk n) kk w1 w2 z
        ) else (
          (ho_is 3 a0 z).bind fun _ =>
          (f_X3_lookAtTwo fu a0 w1 w2 z).bind fun z =>
          f_X3_lookAtPair_B57 fu a0 (f_X3_lookAtPair_L27 fu a0 kk n) kk w1 w2 z
        )
      )
    )
def f_X3_lookAtPair_B23 (fu : Nat) (a0 : Nat) (ag : Int32 → hp_S → Option hp_S) (kk : hp_S → Option hp_S) (w1 : Int32) (z : hp_S) : Option hp_S :=
  (ho_id (w1 + 1)).bind fun v3 =>
  f_X3_lookAtPair_L27 fu a0 (f_X3_lookAtPair_B63 fu a0 ag kk) fu w1 v3 z
def f_X3_lookAtPair_L2 (fu : Nat) (a0 : Nat) (kk : hp_S → Option hp_S) : Nat → Int32 → hp_S → Option hp_S
  | 0, _, _ => none
  | n + 1, w1, z =>
    (ho_gi 3 a0 4 z).bind fun v1 =>
    if v1 ≤ w1 then (
      kk  z
    ) else (
      (ho_is 3 a0 z).bind fun _ =>
      (f_X3_moves fu a0 w1 z).bind fun ⟨v2, z⟩ =>
      if v2 = 0 then (
        f_X3_lookAtPair_B23 fu a0 (f_X3_lookAtPair_L2 fu a0 kk n) kk w1 z
      ) else (
        (ho_is 3 a0 z).bind fun _ =>
        (f_X3_lookAtMove fu a0 w1 z).bind fun z =>
        f_X3_lookAtPair_B23 fu a0 (f_X3_lookAtPair_L2 fu a0 kk n) kk w1 z
      )
    )
def f_X3_lookAtPair (fu : Nat) (a0 : Nat) (z : hp_S) : Option hp_S :=
  f_X3_lookAtPair_L2 fu a0 (f_X3_lookAtPair_B112 fu a0) fu 0 z
set_option maxHeartbeats 4000000 in
set_option maxRecDepth 100000 in
theorem c_X3_lookAtPair (l : Launch) (G : hp_G) (fu : Nat) (a0 : Nat) (z zq : hp_S) (h : f_X3_lookAtPair fu a0 z = some zq) : hp_M l G yX3_lookAtPair cX3_lookAtPair 3 none 4 96 0 0 [.ref a0] z (hp_Qv G zq) := by
  refine hp_M.of (by decide) (Nat.le_of_ble_eq_true rfl) ?_
  intro p e s m below meth c X hr hlocks hnm hP hS ls hl
  have X : hp_C G cX3_lookAtPair RX3 3 p s m c := X
  have hl : lv_has ls 3 [(0, .ref a0)] := hl
  have hx := X.1
  have hb := X.2.1
  have B112 : ∀ (z : hp_S) (H : Heap) (locs : List Loc) (ls : Array Slot), f_X3_lookAtPair_B112 fu a0 z = some zq → hp_P G z H → va_S (hp_A G) s.heap H locs → lv_has ls 3 [(0, .ref a0)] → W p l e (hp_rm 4 96 0 0) s m [.ref a0].toArray below meth c H locs 0 0 (MQ below (hp_Qv G zq) [.ref a0].toArray s 0 0 (hp_A G)) (F0 m 112 ls []) := by
    intro z H locs ls h hP hS hl
    unfold f_X3_lookAtPair_B112 at h
    exact hw_vret X hP hS hr hlocks h dX3_lookAtPair_112
  have L2 : ∀ (n2 : Nat) (w1 : Int32) (z : hp_S) (H : Heap) (locs : List Loc) (ls : Array Slot), f_X3_lookAtPair_L2 fu a0 (f_X3_lookAtPair_B112 fu a0) n2 w1 z = some zq → hp_P G z H → va_S (hp_A G) s.heap H locs → lv_has ls 3 [(0, .ref a0), (1, .int w1)] → W p l e (hp_rm 4 96 0 0) s m [.ref a0].toArray below meth c H locs 0 0 (MQ below (hp_Qv G zq) [.ref a0].toArray s 0 0 (hp_A G)) (F0 m 2 ls []) := by
    intro n2
    induction n2 with
    | zero =>
      intro w1 z H locs ls h
      exact nomatch (h : (none : Option hp_S) = some zq)
    | succ n2 ih2 =>
      have B106 : ∀ (w1 : Int32) (z : hp_S) (H : Heap) (locs : List Loc) (ls : Array Slot), f_X3_lookAtPair_B106 fu a0 (f_X3_lookAtPair_L2 fu a0 (f_X3_lookAtPair_B112 fu a0) n2) (f_X3_lookAtPair_B112 fu a0) w1 z = some zq → hp_P G z H → va_S (hp_A G) s.heap H locs → lv_has ls 3 [(0, .ref a0), (1, .int w1)] → W p l e (hp_rm 4 96 0 0) s m [.ref a0].toArray below meth c H locs 0 0 (MQ below (hp_Qv G zq) [.ref a0].toArray s 0 0 (hp_A G)) (F0 m 106 ls []) := by
        intro w1 z H locs ls h hP hS hl
        unfold f_X3_lookAtPair_B106 at h
        obtain ⟨v4, q, h⟩ := ho_bd h
        refine lv_iinc (v := v4) (lv' := [(1, .int v4), (0, .ref a0)]) hx hb dX3_lookAtPair_106 hl (k := 1) rfl (Option.some.inj q) (by decide) rfl (fun ls hl => ?_)
        refine lv_goto (tgt := 2) hx hb dX3_lookAtPair_109 (by decide) ?_
        exact ih2 v4 z _ _ _ h hP hS (lv_sub hl [1, 0] rfl)
      have L65 : ∀ (n65 : Nat) (w1 : Int32) (w2 : Int32) (z : hp_S) (H : Heap) (locs : List Loc) (ls : Array Slot), f_X3_lookAtPair_L65 fu a0 (f_X3_lookAtPair_B106 fu a0 (f_X3_lookAtPair_L2 fu a0 (f_X3_lookAtPair_B112 fu a0) n2) (f_X3_lookAtPair_B112 fu a0)) n65 w1 w2 z = some zq → hp_P G z H → va_S (hp_A G) s.heap H locs → lv_has ls 3 [(0, .ref a0), (1, .int w1), (2, .int w2)] → W p l e (hp_rm 4 96 0 0) s m [.ref a0].toArray below meth c H locs 0 0 (MQ below (hp_Qv G zq) [.ref a0].toArray s 0 0 (hp_A G)) (F0 m 65 ls []) := by
        intro n65
        induction n65 with
        | zero =>
          intro w1 w2 z H locs ls h
          exact nomatch (h : (none : Option hp_S) = some zq)
        | succ n65 ih65 =>
          have B97 : ∀ (w1 : Int32) (w2 : Int32) (s0 : Int32) (s1 : Int32) (s2 : Int32) (s3 : Int32) (s4 : Nat) (z : hp_S) (H : Heap) (locs : List Loc) (ls : Array Slot), f_X3_lookAtPair_B97 fu a0 (f_X3_lookAtPair_L65 fu a0 (f_X3_lookAtPair_B106 fu a0 (f_X3_lookAtPair_L2 fu a0 (f_X3_lookAtPair_B112 fu a0) n2) (f_X3_lookAtPair_B112 fu a0)) n65) (f_X3_lookAtPair_B106 fu a0 (f_X3_lookAtPair_L2 fu a0 (f_X3_lookAtPair_B112 fu a0) n2) (f_X3_lookAtPair_B112 fu a0)) w1 w2 s0 s1 s2 s3 s4 z = some zq → hp_P G z H → va_S (hp_A G) s.heap H locs → lv_has ls 3 [(0, .ref a0), (1, .int w1), (2, .int w2)] → W p l e (hp_rm 4 96 0 0) s m [.ref a0].toArray below meth c H locs 0 0 (MQ below (hp_Qv G zq) [.ref a0].toArray s 0 0 (hp_A G)) (F0 m 97 ls [.int s0, .int s1, .int s2, .int s3, .ref s4]) := by
            intro w1 w2 s0 s1 s2 s3 s4 z H locs ls h hP hS hl
            unfold f_X3_lookAtPair_B97 at h
            obtain ⟨_, hs, h⟩ := ho_bd h
            obtain ⟨z, q, h⟩ := ho_bd h
            refine hw_cv hS (hp_runV (As := [.int s3, .int s2, .int s1, .int s0]) (rest := []) X hP hS hl.1 LX3 (ho_is_s hs) kX3_123 ⟨m2_187, mp_10⟩ (c_X3_between l G fu s4 s3 s2 s1 s0 _ _ q) rfl (Nat.le_of_ble_eq_true rfl) ⟨⟨Nat.le_of_ble_eq_true rfl, Nat.le_of_ble_eq_true rfl⟩, Nat.le_of_ble_eq_true rfl, Nat.le_of_ble_eq_true rfl⟩ dX3_lookAtPair_97) (fun H locs hP hS => ?_)
            obtain ⟨v6, q, h⟩ := ho_bd h
            refine lv_iinc (v := v6) (lv' := [(2, .int v6), (0, .ref a0), (1, .int w1)]) hx hb dX3_lookAtPair_100 hl (k := 2) rfl (Option.some.inj q) (by decide) rfl (fun ls hl => ?_)
            refine lv_goto (tgt := 65) hx hb dX3_lookAtPair_103 (by decide) ?_
            exact ih65 w1 v6 z _ _ _ h hP hS (lv_sub hl [1, 2, 0] rfl)
          have B96 : ∀ (w1 : Int32) (w2 : Int32) (s0 : Int32) (s1 : Int32) (s2 : Int32) (s3 : Nat) (z : hp_S) (H : Heap) (locs : List Loc) (ls : Array Slot), f_X3_lookAtPair_B96 fu a0 (f_X3_lookAtPair_L65 fu a0 (f_X3_lookAtPair_B106 fu a0 (f_X3_lookAtPair_L2 fu a0 (f_X3_lookAtPair_B112 fu a0) n2) (f_X3_lookAtPair_B112 fu a0)) n65) (f_X3_lookAtPair_B106 fu a0 (f_X3_lookAtPair_L2 fu a0 (f_X3_lookAtPair_B112 fu a0) n2) (f_X3_lookAtPair_B112 fu a0)) w1 w2 s0 s1 s2 s3 z = some zq → hp_P G z H → va_S (hp_A G) s.heap H locs → lv_has ls 3 [(0, .ref a0), (1, .int w1), (2, .int w2)] → W p l e (hp_rm 4 96 0 0) s m [.ref a0].toArray below meth c H locs 0 0 (MQ below (hp_Qv G zq) [.ref a0].toArray s 0 0 (hp_A G)) (F0 m 96 ls [.int s0, .int s1, .int s2, .ref s3]) := by
            intro w1 w2 s0 s1 s2 s3 z H locs ls h hP hS hl
            unfold f_X3_lookAtPair_B96 at h
            refine lv_iconst (v := 0) hx hb dX3_lookAtPair_96 (by decide) ?_
            exact B97 w1 w2 0 s0 s1 s2 s3 z _ _ _ h hP hS (lv_sub hl [0, 1, 2] rfl)
          intro w1 w2 z H locs ls h hP hS hl
          rw [f_X3_lookAtPair_L65] at h
          refine lv_iload_n hx hb dX3_lookAtPair_65 rfl (lv_at hl 2 rfl) ?_
          refine lv_aload_n hx hb dX3_lookAtPair_66 rfl (lv_at hl 0 rfl) ?_
          obtain ⟨v5, q, h⟩ := ho_bd h
          refine hw_gi X hP LX3 fX3_58 rfl q dX3_lookAtPair_67 ?_
          refine lv_icmp_ge (tgt := 106) hx hb dX3_lookAtPair_70 (by decide) (fun hc => ?_) (fun hc => ?_)
          · replace h := ho_ip hc h
            exact B106 w1 z _ _ _ h hP hS (lv_sub hl [0, 1] rfl)
          · replace h := ho_in hc h
            refine lv_aload_n hx hb dX3_lookAtPair_73 rfl (lv_at hl 0 rfl) ?_
            refine lv_bipush (v := 11) hx hb dX3_lookAtPair_74 (by decide) ?_
            refine lv_iload_n hx hb dX3_lookAtPair_76 rfl (lv_at hl 1 rfl) ?_
            refine lv_iload_n hx hb dX3_lookAtPair_77 rfl (lv_at hl 2 rfl) ?_
            refine lv_iload_n hx hb dX3_lookAtPair_78 rfl (lv_at hl 1 rfl) ?_
            refine lv_iload_n hx hb dX3_lookAtPair_79 rfl (lv_at hl 2 rfl) ?_
            refine lv_icmp_eq (tgt := 96) hx hb dX3_lookAtPair_80 (by decide) (fun hc => ?_) (fun hc => ?_)
            · replace h := ho_ip hc h
              exact B96 w1 w2 w2 w1 11 a0 z _ _ _ h hP hS (lv_sub hl [0, 1, 2] rfl)
            · replace h := ho_in hc h
              refine lv_aload_n hx hb dX3_lookAtPair_83 rfl (lv_at hl 0 rfl) ?_
              refine lv_iload_n hx hb dX3_lookAtPair_84 rfl (lv_at hl 1 rfl) ?_
              refine lv_iload_n hx hb dX3_lookAtPair_85 rfl (lv_at hl 2 rfl) ?_
              obtain ⟨_, hs, h⟩ := ho_bd h
              obtain ⟨⟨v7, z⟩, q, h⟩ := ho_bd h
              refine hw_ci hS (hp_runV (As := [.int w1, .int w2]) (rest := [.int w2, .int w1, .int 11, .ref a0]) X hP hS hl.1 LX3 (ho_is_s hs) kX3_138 ⟨m3_17, mp_17⟩ (c_X3_isCrossRelation l G fu a0 w1 w2 _ _ _ q) rfl (Nat.le_of_ble_eq_true rfl) ⟨⟨Nat.le_of_ble_eq_true rfl, Nat.le_of_ble_eq_true rfl⟩, Nat.le_of_ble_eq_true rfl, Nat.le_of_ble_eq_true rfl⟩ dX3_lookAtPair_86) (fun H locs hP hS => ?_)
              refine lv_if_eq (tgt := 96) hx hb dX3_lookAtPair_89 (by decide) (fun hc => ?_) (fun hc => ?_)
              · replace h := ho_ip hc h
                exact B96 w1 w2 w2 w1 11 a0 z _ _ _ h hP hS (lv_sub hl [0, 1, 2] rfl)
              · replace h := ho_in hc h
                refine lv_iconst (v := 1) hx hb dX3_lookAtPair_92 (by decide) ?_
                refine lv_goto (tgt := 97) hx hb dX3_lookAtPair_93 (by decide) ?_
                exact B97 w1 w2 1 w2 w1 11 a0 z _ _ _ h hP hS (lv_sub hl [0, 1, 2] rfl)
      have B63 : ∀ (w1 : Int32) (z : hp_S) (H : Heap) (locs : List Loc) (ls : Array Slot), f_X3_lookAtPair_B63 fu a0 (f_X3_lookAtPair_L2 fu a0 (f_X3_lookAtPair_B112 fu a0) n2) (f_X3_lookAtPair_B112 fu a0) w1 z = some zq → hp_P G z H → va_S (hp_A G) s.heap H locs → lv_has ls 3 [(0, .ref a0), (1, .int w1)] → W p l e (hp_rm 4 96 0 0) s m [.ref a0].toArray below meth c H locs 0 0 (MQ below (hp_Qv G zq) [.ref a0].toArray s 0 0 (hp_A G)) (F0 m 63 ls []) := by
        intro w1 z H locs ls h hP hS hl
        unfold f_X3_lookAtPair_B63 at h
        refine lv_iconst (v := 0) hx hb dX3_lookAtPair_63 (by decide) ?_
        refine lv_istore_n (lv' := [(2, .int 0), (0, .ref a0), (1, .int w1)]) hx hb dX3_lookAtPair_64 rfl hl (by decide) rfl (fun ls hl => ?_)
        exact L65 fu w1 0 z _ _ _ h hP hS (lv_sub hl [1, 2, 0] rfl)
      have L27 : ∀ (n27 : Nat) (w1 : Int32) (w2 : Int32) (z : hp_S) (H : Heap) (locs : List Loc) (ls : Array Slot), f_X3_lookAtPair_L27 fu a0 (f_X3_lookAtPair_B63 fu a0 (f_X3_lookAtPair_L2 fu a0 (f_X3_lookAtPair_B112 fu a0) n2) (f_X3_lookAtPair_B112 fu a0)) n27 w1 w2 z = some zq → hp_P G z H → va_S (hp_A G) s.heap H locs → lv_has ls 3 [(0, .ref a0), (1, .int w1), (2, .int w2)] → W p l e (hp_rm 4 96 0 0) s m [.ref a0].toArray below meth c H locs 0 0 (MQ below (hp_Qv G zq) [.ref a0].toArray s 0 0 (hp_A G)) (F0 m 27 ls []) := by
        intro n27
        induction n27 with
        | zero =>
          intro w1 w2 z H locs ls h
          exact nomatch (h : (none : Option hp_S) = some zq)
        | succ n27 ih27 =>
          have B57 : ∀ (w1 : Int32) (w2 : Int32) (z : hp_S) (H : Heap) (locs : List Loc) (ls : Array Slot), f_X3_lookAtPair_B57 fu a0 (f_X3_lookAtPair_L27 fu a0 (f_X3_lookAtPair_B63 fu a0 (f_X3_lookAtPair_L2 fu a0 (f_X3_lookAtPair_B112 fu a0) n2) (f_X3_lookAtPair_B112 fu a0)) n27) (f_X3_lookAtPair_B63 fu a0 (f_X3_lookAtPair_L2 fu a0 (f_X3_lookAtPair_B112 fu a0) n2) (f_X3_lookAtPair_B112 fu a0)) w1 w2 z = some zq → hp_P G z H → va_S (hp_A G) s.heap H locs → lv_has ls 3 [(0, .ref a0), (1, .int w1), (2, .int w2)] → W p l e (hp_rm 4 96 0 0) s m [.ref a0].toArray below meth c H locs 0 0 (MQ below (hp_Qv G zq) [.ref a0].toArray s 0 0 (hp_A G)) (F0 m 57 ls []) := by
            intro w1 w2 z H locs ls h hP hS hl
            unfold f_X3_lookAtPair_B57 at h
            obtain ⟨v10, q, h⟩ := ho_bd h
            refine lv_iinc (v := v10) (lv' := [(2, .int v10), (0, .ref a0), (1, .int w1)]) hx hb dX3_lookAtPair_57 hl (k := 2) rfl (Option.some.inj q) (by decide) rfl (fun ls hl => ?_)
            refine lv_goto (tgt := 27) hx hb dX3_lookAtPair_60 (by decide) ?_
            exact ih27 w1 v10 z _ _ _ h hP hS (lv_sub hl [1, 2, 0] rfl)
          intro w1 w2 z H locs ls h hP hS hl
          rw [f_X3_lookAtPair_L27] at h
          refine lv_iload_n hx hb dX3_lookAtPair_27 rfl (lv_at hl 2 rfl) ?_
          refine lv_aload_n hx hb dX3_lookAtPair_28 rfl (lv_at hl 0 rfl) ?_
          obtain ⟨v8, q, h⟩ := ho_bd h
          refine hw_gi X hP LX3 fX3_58 rfl q dX3_lookAtPair_29 ?_
          refine lv_icmp_ge (tgt := 63) hx hb dX3_lookAtPair_32 (by decide) (fun hc => ?_) (fun hc => ?_)
          · replace h := ho_ip hc h
            exact B63 w1 z _ _ _ h hP hS (lv_sub hl [0, 1] rfl)
          · replace h := ho_in hc h
            refine lv_aload_n hx hb dX3_lookAtPair_35 rfl (lv_at hl 0 rfl) ?_
            refine lv_iload_n hx hb dX3_lookAtPair_36 rfl (lv_at hl 1 rfl) ?_
            obtain ⟨_, hs, h⟩ := ho_bd h
            obtain ⟨⟨v9, z⟩, q, h⟩ := ho_bd h
            refine hw_ci hS (hp_runV (As := [.int w1]) (rest := []) X hP hS hl.1 LX3 (ho_is_s hs) kX3_97 ⟨m2_174, mp_7⟩ (c_X3_goes l G fu a0 w1 _ _ _ q) rfl (Nat.le_of_ble_eq_true rfl) ⟨⟨Nat.le_of_ble_eq_true rfl, Nat.le_of_ble_eq_true rfl⟩, Nat.le_of_ble_eq_true rfl, Nat.le_of_ble_eq_true rfl⟩ dX3_lookAtPair_37) (fun H locs hP hS => ?_)
            refine lv_if_eq (tgt := 57) hx hb dX3_lookAtPair_40 (by decide) (fun hc => ?_) (fun hc => ?_)
            · replace h := ho_ip hc h
              exact B57 w1 w2 z _ _ _ h hP hS (lv_sub hl [0, 1, 2] rfl)
            · replace h := ho_in hc h
              refine lv_aload_n hx hb dX3_lookAtPair_43 rfl (lv_at hl 0 rfl) ?_
              refine lv_iload_n hx hb dX3_lookAtPair_44 rfl (lv_at hl 2 rfl) ?_
              obtain ⟨_, hs, h⟩ := ho_bd h
              obtain ⟨⟨v11, z⟩, q, h⟩ := ho_bd h
              refine hw_ci hS (hp_runV (As := [.int w2]) (rest := []) X hP hS hl.1 LX3 (ho_is_s hs) kX3_97 ⟨m2_174, mp_7⟩ (c_X3_goes l G fu a0 w2 _ _ _ q) rfl (Nat.le_of_ble_eq_true rfl) ⟨⟨Nat.le_of_ble_eq_true rfl, Nat.le_of_ble_eq_true rfl⟩, Nat.le_of_ble_eq_true rfl, Nat.le_of_ble_eq_true rfl⟩ dX3_lookAtPair_45) (fun H locs hP hS => ?_)
              refine lv_if_eq (tgt := 57) hx hb dX3_lookAtPair_48 (by decide) (fun hc => ?_) (fun hc => ?_)
              · replace h := ho_ip hc h
                exact B57 w1 w2 z _ _ _ h hP hS (lv_sub hl [0, 1, 2] rfl)
              · replace h := ho_in hc h
                refine lv_aload_n hx hb dX3_lookAtPair_51 rfl (lv_at hl 0 rfl) ?_
                refine lv_iload_n hx hb dX3_lookAtPair_52 rfl (lv_at hl 1 rfl) ?_
                refine lv_iload_n hx hb dX3_lookAtPair_53 rfl (lv_at hl 2 rfl) ?_
                obtain ⟨_, hs, h⟩ := ho_bd h
                obtain ⟨z, q, h⟩ := ho_bd h
                refine hw_cv hS (hp_runV (As := [.int w1, .int w2]) (rest := []) X hP hS hl.1 LX3 (ho_is_s hs) kX3_135 ⟨m2_234, mp_15⟩ (c_X3_lookAtTwo l G fu a0 w1 w2 _ _ q) rfl (Nat.le_of_ble_eq_true rfl) ⟨⟨Nat.le_of_ble_eq_true rfl, Nat.le_of_ble_eq_true rfl⟩, Nat.le_of_ble_eq_true rfl, Nat.le_of_ble_eq_true rfl⟩ dX3_lookAtPair_54) (fun H locs hP hS => ?_)
                exact B57 w1 w2 z _ _ _ h hP hS (lv_sub hl [0, 1, 2] rfl)
      have B23 : ∀ (w1 : Int32) (z : hp_S) (H : Heap) (locs : List Loc) (ls : Array Slot), f_X3_lookAtPair_B23 fu a0 (f_X3_lookAtPair_L2 fu a0 (f_X3_lookAtPair_B112 fu a0) n2) (f_X3_lookAtPair_B112 fu a0) w1 z = some zq → hp_P G z H → va_S (hp_A G) s.heap H locs → lv_has ls 3 [(0, .ref a0), (1, .int w1)] → W p l e (hp_rm 4 96 0 0) s m [.ref a0].toArray below meth c H locs 0 0 (MQ below (hp_Qv G zq) [.ref a0].toArray s 0 0 (hp_A G)) (F0 m 23 ls []) := by
        intro w1 z H locs ls h hP hS hl
        unfold f_X3_lookAtPair_B23 at h
        refine lv_iload_n hx hb dX3_lookAtPair_23 rfl (lv_at hl 1 rfl) ?_
        refine lv_iconst (v := 1) hx hb dX3_lookAtPair_24 (by decide) ?_
        refine lv_iadd hx hb dX3_lookAtPair_25 ?_
        obtain ⟨v3, q, h⟩ := ho_bd h
        refine hw_id q ?_
        refine lv_istore_n (lv' := [(2, .int v3), (0, .ref a0), (1, .int w1)]) hx hb dX3_lookAtPair_26 rfl hl (by decide) rfl (fun ls hl => ?_)
        exact L27 fu w1 v3 z _ _ _ h hP hS (lv_sub hl [1, 2, 0] rfl)
      intro w1 z H locs ls h hP hS hl
      rw [f_X3_lookAtPair_L2] at h
      refine lv_iload_n hx hb dX3_lookAtPair_2 rfl (lv_at hl 1 rfl) ?_
      refine lv_aload_n hx hb dX3_lookAtPair_3 rfl (lv_at hl 0 rfl) ?_
      obtain ⟨v1, q, h⟩ := ho_bd h
      refine hw_gi X hP LX3 fX3_58 rfl q dX3_lookAtPair_4 ?_
      refine lv_icmp_ge (tgt := 112) hx hb dX3_lookAtPair_7 (by decide) (fun hc => ?_) (fun hc => ?_)
      · replace h := ho_ip hc h
        exact B112 z _ _ _ h hP hS (lv_sub hl [0] rfl)
      · replace h := ho_in hc h
        refine lv_aload_n hx hb dX3_lookAtPair_10 rfl (lv_at hl 0 rfl) ?_
        refine lv_iload_n hx hb dX3_lookAtPair_11 rfl (lv_at hl 1 rfl) ?_
        obtain ⟨_, hs, h⟩ := ho_bd h
        obtain ⟨⟨v2, z⟩, q, h⟩ := ho_bd h
        refine hw_ci hS (hp_runV (As := [.int w1]) (rest := []) X hP hS hl.1 LX3 (ho_is_s hs) kX3_101 ⟨m2_178, mp_8⟩ (c_X3_moves l G fu a0 w1 _ _ _ q) rfl (Nat.le_of_ble_eq_true rfl) ⟨⟨Nat.le_of_ble_eq_true rfl, Nat.le_of_ble_eq_true rfl⟩, Nat.le_of_ble_eq_true rfl, Nat.le_of_ble_eq_true rfl⟩ dX3_lookAtPair_12) (fun H locs hP hS => ?_)
        refine lv_if_eq (tgt := 23) hx hb dX3_lookAtPair_15 (by decide) (fun hc => ?_) (fun hc => ?_)
        · replace h := ho_ip hc h
          exact B23 w1 z _ _ _ h hP hS (lv_sub hl [0, 1] rfl)
        · replace h := ho_in hc h
          refine lv_aload_n hx hb dX3_lookAtPair_18 rfl (lv_at hl 0 rfl) ?_
          refine lv_iload_n hx hb dX3_lookAtPair_19 rfl (lv_at hl 1 rfl) ?_
          obtain ⟨_, hs, h⟩ := ho_bd h
          obtain ⟨z, q, h⟩ := ho_bd h
          refine hw_cv hS (hp_runV (As := [.int w1]) (rest := []) X hP hS hl.1 LX3 (ho_is_s hs) kX3_131 ⟨m2_219, mp_14⟩ (c_X3_lookAtMove l G fu a0 w1 _ _ q) rfl (Nat.le_of_ble_eq_true rfl) ⟨⟨Nat.le_of_ble_eq_true rfl, Nat.le_of_ble_eq_true rfl⟩, Nat.le_of_ble_eq_true rfl, Nat.le_of_ble_eq_true rfl⟩ dX3_lookAtPair_20) (fun H locs hP hS => ?_)
          exact B23 w1 z _ _ _ h hP hS (lv_sub hl [0, 1] rfl)
  unfold f_X3_lookAtPair at h
  refine lv_iconst (v := 0) hx hb dX3_lookAtPair_0 (by decide) ?_
  refine lv_istore_n (lv' := [(1, .int 0), (0, .ref a0)]) hx hb dX3_lookAtPair_1 rfl hl (by decide) rfl (fun ls hl => ?_)
  exact L2 fu 0 z _ _ _ h hP hS (lv_sub hl [1, 0] rfl)
def f_X3_walk_B85 (fu : Nat) (a0 : Nat) (a1 : Nat) (a2 : Nat) (z : hp_S) : Option hp_S :=
  some z
def f_X3_walk_L23 (fu : Nat) (a0 : Nat) (a1 : Nat) (a2 : Nat) (kk : hp_S → Option hp_S) : Nat → Int32 → hp_S → Option hp_S
  | 0, _, _ => none
  | n + 1, w3, z =>
    (ho_gi 5 a2 1 z).bind fun v4 =>
    if v4 ≤ w3 then (
      kk  z
    ) else (
      (ho_gr 3 a0 1 z).bind fun r5 =>
      (ho_gr 3 a0 2 z).bind fun r6 =>
      (ho_pr 3 a0 1 r6 z).bind fun z =>
      (ho_pr 3 a0 2 r5 z).bind fun z =>
      (ho_gr 3 a0 2 z).bind fun r7 =>
      (ho_gr 5 a2 0 z).bind fun r8 =>
      (ho_li 1 r8 w3 z).bind fun v9 =>
      (ho_is 0 r7 z).bind fun _ =>
      (f_X0_load fu r7 a1 v9 z).bind fun z =>
      (ho_pi 3 a0 3 w3 z).bind fun z =>
      (ho_is 3 a0 z).bind fun _ =>
      (f_X3_lookAtMoment fu a0 a1 z).bind fun z =>
      (ho_is 3 a0 z).bind fun _ =>
      (f_X3_lookAtPair fu a0 z).bind fun z =>
      (ho_id (w3 + 1)).bind fun v10 =>
      (f_X3_walk_L23 fu a0 a1 a2 kk n) v10 z
    )
def f_X3_walk (fu : Nat) (a0 : Nat) (a1 : Nat) (a2 : Nat) (z : hp_S) : Option hp_S :=
  (ho_gr 3 a0 0 z).bind fun r1 =>
  (ho_is 2 r1 z).bind fun _ =>
  (f_X2_begin fu r1 a2 z).bind fun z =>
  (ho_ln (4 + 53) a1 z).bind fun v2 =>
  (ho_pi 3 a0 4 v2 z).bind fun z =>
  (ho_gr 3 a0 2 z).bind fun r3 =>
  (ho_is 0 r3 z).bind fun _ =>
  (f_X0_hush fu r3 z).bind fun z =>
  f_X3_walk_L23 fu a0 a1 a2 (f_X3_walk_B85 fu a0 a1 a2) fu 0 z
set_option maxHeartbeats 4000000 in
set_option maxRecDepth 100000 in
theorem c_X3_walk (l : Launch) (G : hp_G) (fu : Nat) (a0 : Nat) (a1 : Nat) (a2 : Nat) (z zq : hp_S) (h : f_X3_walk fu a0 a1 a2 z = some zq) : hp_M l G yX3_walk cX3_walk 5 none 5 118 0 0 [.ref a0, .ref a1, .ref a2] z (hp_Qv G zq) := by
  refine hp_M.of (by decide) (Nat.le_of_ble_eq_true rfl) ?_
  intro p e s m below meth c X hr hlocks hnm hP hS ls hl
  have X : hp_C G cX3_walk RX3 5 p s m c := X
  have hl : lv_has ls 5 [(0, .ref a0), (1, .ref a1), (2, .ref a2)] := hl
  have hx := X.1
  have hb := X.2.1
  have B85 : ∀ (z : hp_S) (H : Heap) (locs : List Loc) (ls : Array Slot), f_X3_walk_B85 fu a0 a1 a2 z = some zq → hp_P G z H → va_S (hp_A G) s.heap H locs → lv_has ls 5 [(0, .ref a0), (1, .ref a1), (2, .ref a2)] → W p l e (hp_rm 5 118 0 0) s m [.ref a0, .ref a1, .ref a2].toArray below meth c H locs 0 0 (MQ below (hp_Qv G zq) [.ref a0, .ref a1, .ref a2].toArray s 0 0 (hp_A G)) (F0 m 85 ls []) := by
    intro z H locs ls h hP hS hl
    unfold f_X3_walk_B85 at h
    exact hw_vret X hP hS hr hlocks h dX3_walk_85
  have L23 : ∀ (n23 : Nat) (w3 : Int32) (z : hp_S) (H : Heap) (locs : List Loc) (ls : Array Slot), f_X3_walk_L23 fu a0 a1 a2 (f_X3_walk_B85 fu a0 a1 a2) n23 w3 z = some zq → hp_P G z H → va_S (hp_A G) s.heap H locs → lv_has ls 5 [(0, .ref a0), (1, .ref a1), (2, .ref a2), (3, .int w3)] → W p l e (hp_rm 5 118 0 0) s m [.ref a0, .ref a1, .ref a2].toArray below meth c H locs 0 0 (MQ below (hp_Qv G zq) [.ref a0, .ref a1, .ref a2].toArray s 0 0 (hp_A G)) (F0 m 23 ls []) := by
    intro n23
    induction n23 with
    | zero =>
      intro w3 z H locs ls h
      exact nomatch (h : (none : Option hp_S) = some zq)
    | succ n23 ih23 =>
      intro w3 z H locs ls h hP hS hl
      rw [f_X3_walk_L23] at h
      refine lv_iload_n hx hb dX3_walk_23 rfl (lv_at hl 3 rfl) ?_
      refine lv_aload_n hx hb dX3_walk_24 rfl (lv_at hl 2 rfl) ?_
      obtain ⟨v4, q, h⟩ := ho_bd h
      refine hw_gi X hP LX5 fX3_64 rfl q dX3_walk_25 ?_
      refine lv_icmp_ge (tgt := 85) hx hb dX3_walk_28 (by decide) (fun hc => ?_) (fun hc => ?_)
      · replace h := ho_ip hc h
        exact B85 z _ _ _ h hP hS (lv_sub hl [0, 1, 2] rfl)
      · replace h := ho_in hc h
        refine lv_aload_n hx hb dX3_walk_31 rfl (lv_at hl 0 rfl) ?_
        obtain ⟨r5, q, h⟩ := ho_bd h
        refine hw_gr X hP LX3 fX3_21 rfl q dX3_walk_32 ?_
        refine lv_astore (lv' := [(4, .ref r5), (0, .ref a0), (1, .ref a1), (2, .ref a2), (3, .int w3)]) hx hb dX3_walk_35 hl (by decide) rfl (fun ls hl => ?_)
        refine lv_aload_n hx hb dX3_walk_37 rfl (lv_at hl 1 rfl) ?_
        refine lv_aload_n hx hb dX3_walk_38 rfl (lv_at hl 1 rfl) ?_
        obtain ⟨r6, q, h⟩ := ho_bd h
        refine hw_gr X hP LX3 fX3_25 rfl q dX3_walk_39 ?_
        obtain ⟨z, q, h⟩ := ho_bd h
        refine hw_pr X hP hS LX3 fX3_21 rfl rfl rfl rfl q dX3_walk_42 (fun H locs hP hS => ?_)
        refine lv_aload_n hx hb dX3_walk_45 rfl (lv_at hl 1 rfl) ?_
        refine lv_aload hx hb dX3_walk_46 (lv_at hl 0 rfl) ?_
        obtain ⟨z, q, h⟩ := ho_bd h
        refine hw_pr X hP hS LX3 fX3_25 rfl rfl rfl rfl q dX3_walk_48 (fun H locs hP hS => ?_)
        refine lv_aload_n hx hb dX3_walk_51 rfl (lv_at hl 1 rfl) ?_
        obtain ⟨r7, q, h⟩ := ho_bd h
        refine hw_gr X hP LX3 fX3_25 rfl q dX3_walk_52 ?_
        refine lv_aload_n hx hb dX3_walk_55 rfl (lv_at hl 2 rfl) ?_
        refine lv_aload_n hx hb dX3_walk_56 rfl (lv_at hl 3 rfl) ?_
        obtain ⟨r8, q, h⟩ := ho_bd h
        refine hw_gr X hP LX5 fX3_69 rfl q dX3_walk_57 ?_
        refine lv_iload_n hx hb dX3_walk_60 rfl (lv_at hl 4 rfl) ?_
        obtain ⟨v9, q, h⟩ := ho_bd h
        refine hw_li X hP q dX3_walk_61 ?_
        obtain ⟨_, hs, h⟩ := ho_bd h
        obtain ⟨z, q, h⟩ := ho_bd h
        refine hw_cv hS (hp_runV (As := [.ref a1, .int v9]) (rest := []) X hP hS hl.1 LX0 (ho_is_s hs) kX3_72 ⟨m2_159, m2_160⟩ (c_X0_load l G fu r7 a1 v9 _ _ q) rfl (Nat.le_of_ble_eq_true rfl) ⟨⟨Nat.le_of_ble_eq_true rfl, Nat.le_of_ble_eq_true rfl⟩, Nat.le_of_ble_eq_true rfl, Nat.le_of_ble_eq_true rfl⟩ dX3_walk_62) (fun H locs hP hS => ?_)
        refine lv_aload_n hx hb dX3_walk_65 rfl (lv_at hl 1 rfl) ?_
        refine lv_iload_n hx hb dX3_walk_66 rfl (lv_at hl 4 rfl) ?_
        obtain ⟨z, q, h⟩ := ho_bd h
        refine hw_pi X hP hS LX3 fX3_76 rfl rfl rfl q dX3_walk_67 (fun H locs hP hS => ?_)
        refine lv_aload_n hx hb dX3_walk_70 rfl (lv_at hl 1 rfl) ?_
        refine lv_aload_n hx hb dX3_walk_71 rfl (lv_at hl 2 rfl) ?_
        obtain ⟨_, hs, h⟩ := ho_bd h
        obtain ⟨z, q, h⟩ := ho_bd h
        refine hw_cv hS (hp_runV (As := [.ref a1]) (rest := []) X hP hS hl.1 LX3 (ho_is_s hs) kX3_79 ⟨m2_170, mp_6⟩ (c_X3_lookAtMoment l G fu a0 a1 _ _ q) rfl (Nat.le_of_ble_eq_true rfl) ⟨⟨Nat.le_of_ble_eq_true rfl, Nat.le_of_ble_eq_true rfl⟩, Nat.le_of_ble_eq_true rfl, Nat.le_of_ble_eq_true rfl⟩ dX3_walk_72) (fun H locs hP hS => ?_)
        refine lv_aload_n hx hb dX3_walk_75 rfl (lv_at hl 1 rfl) ?_
        obtain ⟨_, hs, h⟩ := ho_bd h
        obtain ⟨z, q, h⟩ := ho_bd h
        refine hw_cv hS (hp_runV (As := []) (rest := []) X hP hS hl.1 LX3 (ho_is_s hs) kX3_83 ⟨m2_215, mp_13⟩ (c_X3_lookAtPair l G fu a0 _ _ q) rfl (Nat.le_of_ble_eq_true rfl) ⟨⟨Nat.le_of_ble_eq_true rfl, Nat.le_of_ble_eq_true rfl⟩, Nat.le_of_ble_eq_true rfl, Nat.le_of_ble_eq_true rfl⟩ dX3_walk_76) (fun H locs hP hS => ?_)
        obtain ⟨v10, q, h⟩ := ho_bd h
        refine lv_iinc (v := v10) (lv' := [(3, .int v10), (4, .ref r5), (0, .ref a0), (1, .ref a1), (2, .ref a2)]) hx hb dX3_walk_79 hl (k := 4) rfl (Option.some.inj q) (by decide) rfl (fun ls hl => ?_)
        refine lv_goto (tgt := 23) hx hb dX3_walk_82 (by decide) ?_
        exact ih23 v10 z _ _ _ h hP hS (lv_sub hl [2, 3, 4, 0] rfl)
  unfold f_X3_walk at h
  refine lv_aload_n hx hb dX3_walk_0 rfl (lv_at hl 0 rfl) ?_
  obtain ⟨r1, q, h⟩ := ho_bd h
  refine hw_gr X hP LX3 fX3_12 rfl q dX3_walk_1 ?_
  refine lv_aload_n hx hb dX3_walk_4 rfl (lv_at hl 2 rfl) ?_
  obtain ⟨_, hs, h⟩ := ho_bd h
  obtain ⟨z, q, h⟩ := ho_bd h
  refine hw_cv hS (hp_runV (As := [.ref a2]) (rest := []) X hP hS hl.1 LX2 (ho_is_s hs) kX3_54 ⟨m2_147, m2_148⟩ (c_X2_begin l G fu r1 a2 _ _ q) rfl (Nat.le_of_ble_eq_true rfl) ⟨⟨Nat.le_of_ble_eq_true rfl, Nat.le_of_ble_eq_true rfl⟩, Nat.le_of_ble_eq_true rfl, Nat.le_of_ble_eq_true rfl⟩ dX3_walk_5) (fun H locs hP hS => ?_)
  refine lv_aload_n hx hb dX3_walk_8 rfl (lv_at hl 0 rfl) ?_
  refine lv_aload_n hx hb dX3_walk_9 rfl (lv_at hl 1 rfl) ?_
  obtain ⟨v2, q, h⟩ := ho_bd h
  refine hw_lnr (t0 := 2) X hP rfl q dX3_walk_10 ?_
  obtain ⟨z, q, h⟩ := ho_bd h
  refine hw_pi X hP hS LX3 fX3_58 rfl rfl rfl q dX3_walk_11 (fun H locs hP hS => ?_)
  refine lv_aload_n hx hb dX3_walk_14 rfl (lv_at hl 0 rfl) ?_
  obtain ⟨r3, q, h⟩ := ho_bd h
  refine hw_gr X hP LX3 fX3_25 rfl q dX3_walk_15 ?_
  obtain ⟨_, hs, h⟩ := ho_bd h
  obtain ⟨z, q, h⟩ := ho_bd h
  refine hw_cv hS (hp_runV (As := []) (rest := []) X hP hS hl.1 LX0 (ho_is_s hs) kX3_61 ⟨m2_155, m2_156⟩ (c_X0_hush l G fu r3 _ _ q) rfl (Nat.le_of_ble_eq_true rfl) ⟨⟨Nat.le_of_ble_eq_true rfl, Nat.le_of_ble_eq_true rfl⟩, Nat.le_of_ble_eq_true rfl, Nat.le_of_ble_eq_true rfl⟩ dX3_walk_18) (fun H locs hP hS => ?_)
  refine lv_iconst (v := 0) hx hb dX3_walk_21 (by decide) ?_
  refine lv_istore_n (lv' := [(3, .int 0), (0, .ref a0), (1, .ref a1), (2, .ref a2)]) hx hb dX3_walk_22 rfl hl (by decide) rfl (fun ls hl => ?_)
  exact L23 fu 0 z _ _ _ h hP hS (lv_sub hl [1, 2, 3, 0] rfl)
def f_X5_firstFrom_B28 (fu : Nat) (a0 : Nat) (x1 : Int32) (z : hp_S) : Option (Int32 × hp_S) :=
  some ((-1), z)
def f_X5_firstFrom_L2 (fu : Nat) (a0 : Nat) (x1 : Int32) (kk : hp_S → Option (Int32 × hp_S)) : Nat → Int32 → hp_S → Option (Int32 × hp_S)
  | 0, _, _ => none
  | n + 1, w2, z =>
    (ho_gi 5 a0 1 z).bind fun v1 =>
    if v1 ≤ w2 then (
      kk  z
    ) else (
      (ho_gr 5 a0 0 z).bind fun r2 =>
      (ho_li 1 r2 w2 z).bind fun v3 =>
      if v3 < x1 then (
        (ho_id (w2 + 1)).bind fun v4 =>
        (f_X5_firstFrom_L2 fu a0 x1 kk n) v4 z
      ) else (
        some (w2, z)
      )
    )
def f_X5_firstFrom (fu : Nat) (a0 : Nat) (x1 : Int32) (z : hp_S) : Option (Int32 × hp_S) :=
  f_X5_firstFrom_L2 fu a0 x1 (f_X5_firstFrom_B28 fu a0 x1) fu 0 z
set_option maxHeartbeats 4000000 in
set_option maxRecDepth 100000 in
theorem c_X5_firstFrom (l : Launch) (G : hp_G) (fu : Nat) (a0 : Nat) (x1 : Int32) (z : hp_S) (rq : Int32) (zq : hp_S) (h : f_X5_firstFrom fu a0 x1 z = some (rq, zq)) : hp_M l G yX5_firstFrom cX5_firstFrom 3 (some .int) 0 0 0 0 [.ref a0, .int x1] z (hp_Qi G rq zq) := by
  refine hp_M.of (by decide) (Nat.le_of_ble_eq_true rfl) ?_
  intro p e s m below meth c X hr hlocks hnm hP hS ls hl
  have X : hp_C G cX5_firstFrom RX5 3 p s m c := X
  have hl : lv_has ls 3 [(0, .ref a0), (1, .int x1)] := hl
  have hx := X.1
  have hb := X.2.1
  have B28 : ∀ (z : hp_S) (H : Heap) (locs : List Loc) (ls : Array Slot), f_X5_firstFrom_B28 fu a0 x1 z = some (rq, zq) → hp_P G z H → va_S (hp_A G) s.heap H locs → lv_has ls 3 [(0, .ref a0), (1, .int x1)] → W p l e (hp_rm 0 0 0 0) s m [.ref a0, .int x1].toArray below meth c H locs 0 0 (MQ below (hp_Qi G rq zq) [.ref a0, .int x1].toArray s 0 0 (hp_A G)) (F0 m 28 ls []) := by
    intro z H locs ls h hP hS hl
    unfold f_X5_firstFrom_B28 at h
    refine lv_iconst (v := (-1)) hx hb dX5_firstFrom_28 (by decide) ?_
    exact hw_iret X hP hS hr hlocks h dX5_firstFrom_29
  have L2 : ∀ (n2 : Nat) (w2 : Int32) (z : hp_S) (H : Heap) (locs : List Loc) (ls : Array Slot), f_X5_firstFrom_L2 fu a0 x1 (f_X5_firstFrom_B28 fu a0 x1) n2 w2 z = some (rq, zq) → hp_P G z H → va_S (hp_A G) s.heap H locs → lv_has ls 3 [(0, .ref a0), (1, .int x1), (2, .int w2)] → W p l e (hp_rm 0 0 0 0) s m [.ref a0, .int x1].toArray below meth c H locs 0 0 (MQ below (hp_Qi G rq zq) [.ref a0, .int x1].toArray s 0 0 (hp_A G)) (F0 m 2 ls []) := by
    intro n2
    induction n2 with
    | zero =>
      intro w2 z H locs ls h
      exact nomatch (h : (none : Option (Int32 × hp_S)) = some (rq, zq))
    | succ n2 ih2 =>
      intro w2 z H locs ls h hP hS hl
      rw [f_X5_firstFrom_L2] at h
      refine lv_iload_n hx hb dX5_firstFrom_2 rfl (lv_at hl 2 rfl) ?_
      refine lv_aload_n hx hb dX5_firstFrom_3 rfl (lv_at hl 0 rfl) ?_
      obtain ⟨v1, q, h⟩ := ho_bd h
      refine hw_gi X hP LX5 fX5_18 rfl q dX5_firstFrom_4 ?_
      refine lv_icmp_ge (tgt := 28) hx hb dX5_firstFrom_7 (by decide) (fun hc => ?_) (fun hc => ?_)
      · replace h := ho_ip hc h
        exact B28 z _ _ _ h hP hS (lv_sub hl [0, 1] rfl)
      · replace h := ho_in hc h
        refine lv_aload_n hx hb dX5_firstFrom_10 rfl (lv_at hl 0 rfl) ?_
        obtain ⟨r2, q, h⟩ := ho_bd h
        refine hw_gr X hP LX5 fX5_9 rfl q dX5_firstFrom_11 ?_
        refine lv_iload_n hx hb dX5_firstFrom_14 rfl (lv_at hl 2 rfl) ?_
        obtain ⟨v3, q, h⟩ := ho_bd h
        refine hw_li X hP q dX5_firstFrom_15 ?_
        refine lv_iload_n hx hb dX5_firstFrom_16 rfl (lv_at hl 1 rfl) ?_
        refine lv_icmp_lt (tgt := 22) hx hb dX5_firstFrom_17 (by decide) (fun hc => ?_) (fun hc => ?_)
        · replace h := ho_ip hc h
          obtain ⟨v4, q, h⟩ := ho_bd h
          refine lv_iinc (v := v4) (lv' := [(2, .int v4), (0, .ref a0), (1, .int x1)]) hx hb dX5_firstFrom_22 hl (k := 2) rfl (Option.some.inj q) (by decide) rfl (fun ls hl => ?_)
          refine lv_goto (tgt := 2) hx hb dX5_firstFrom_25 (by decide) ?_
          exact ih2 v4 z _ _ _ h hP hS (lv_sub hl [1, 2, 0] rfl)
        · replace h := ho_in hc h
          refine lv_iload_n hx hb dX5_firstFrom_20 rfl (lv_at hl 2 rfl) ?_
          exact hw_iret X hP hS hr hlocks h dX5_firstFrom_21
  unfold f_X5_firstFrom at h
  refine lv_iconst (v := 0) hx hb dX5_firstFrom_0 (by decide) ?_
  refine lv_istore_n (lv' := [(2, .int 0), (0, .ref a0), (1, .int x1)]) hx hb dX5_firstFrom_1 rfl hl (by decide) rfl (fun ls hl => ?_)
  exact L2 fu 0 z _ _ _ h hP hS (lv_sub hl [1, 2, 0] rfl)
def f_X5_lastBefore_B29 (fu : Nat) (a0 : Nat) (x1 : Int32) (z : hp_S) : Option (Int32 × hp_S) :=
  some ((-1), z)
def f_X5_lastBefore_L7 (fu : Nat) (a0 : Nat) (x1 : Int32) (kk : hp_S → Option (Int32 × hp_S)) : Nat → Int32 → hp_S → Option (Int32 × hp_S)
  | 0, _, _ => none
  | n + 1, w2, z =>
    if w2 < 0 then (
      kk  z
    ) else (
      (ho_gr 5 a0 0 z).bind fun r3 =>
      (ho_li 1 r3 w2 z).bind fun v4 =>
      if x1 ≤ v4 then (
        (ho_id (w2 + (-1))).bind fun v5 =>
        (f_X5_lastBefore_L7 fu a0 x1 kk n) v5 z
      ) else (
        some (w2, z)
      )
    )
def f_X5_lastBefore (fu : Nat) (a0 : Nat) (x1 : Int32) (z : hp_S) : Option (Int32 × hp_S) :=
  (ho_gi 5 a0 1 z).bind fun v1 =>
  (ho_id (v1 - 1)).bind fun v2 =>
  f_X5_lastBefore_L7 fu a0 x1 (f_X5_lastBefore_B29 fu a0 x1) fu v2 z
set_option maxHeartbeats 4000000 in
set_option maxRecDepth 100000 in
theorem c_X5_lastBefore (l : Launch) (G : hp_G) (fu : Nat) (a0 : Nat) (x1 : Int32) (z : hp_S) (rq : Int32) (zq : hp_S) (h : f_X5_lastBefore fu a0 x1 z = some (rq, zq)) : hp_M l G yX5_lastBefore cX5_lastBefore 3 (some .int) 0 0 0 0 [.ref a0, .int x1] z (hp_Qi G rq zq) := by
  refine hp_M.of (by decide) (Nat.le_of_ble_eq_true rfl) ?_
  intro p e s m below meth c X hr hlocks hnm hP hS ls hl
  have X : hp_C G cX5_lastBefore RX5 3 p s m c := X
  have hl : lv_has ls 3 [(0, .ref a0), (1, .int x1)] := hl
  have hx := X.1
  have hb := X.2.1
  have B29 : ∀ (z : hp_S) (H : Heap) (locs : List Loc) (ls : Array Slot), f_X5_lastBefore_B29 fu a0 x1 z = some (rq, zq) → hp_P G z H → va_S (hp_A G) s.heap H locs → lv_has ls 3 [(0, .ref a0), (1, .int x1)] → W p l e (hp_rm 0 0 0 0) s m [.ref a0, .int x1].toArray below meth c H locs 0 0 (MQ below (hp_Qi G rq zq) [.ref a0, .int x1].toArray s 0 0 (hp_A G)) (F0 m 29 ls []) := by
    intro z H locs ls h hP hS hl
    unfold f_X5_lastBefore_B29 at h
    refine lv_iconst (v := (-1)) hx hb dX5_lastBefore_29 (by decide) ?_
    exact hw_iret X hP hS hr hlocks h dX5_lastBefore_30
  have L7 : ∀ (n7 : Nat) (w2 : Int32) (z : hp_S) (H : Heap) (locs : List Loc) (ls : Array Slot), f_X5_lastBefore_L7 fu a0 x1 (f_X5_lastBefore_B29 fu a0 x1) n7 w2 z = some (rq, zq) → hp_P G z H → va_S (hp_A G) s.heap H locs → lv_has ls 3 [(0, .ref a0), (1, .int x1), (2, .int w2)] → W p l e (hp_rm 0 0 0 0) s m [.ref a0, .int x1].toArray below meth c H locs 0 0 (MQ below (hp_Qi G rq zq) [.ref a0, .int x1].toArray s 0 0 (hp_A G)) (F0 m 7 ls []) := by
    intro n7
    induction n7 with
    | zero =>
      intro w2 z H locs ls h
      exact nomatch (h : (none : Option (Int32 × hp_S)) = some (rq, zq))
    | succ n7 ih7 =>
      intro w2 z H locs ls h hP hS hl
      rw [f_X5_lastBefore_L7] at h
      refine lv_iload_n hx hb dX5_lastBefore_7 rfl (lv_at hl 2 rfl) ?_
      refine lv_if_lt (tgt := 29) hx hb dX5_lastBefore_8 (by decide) (fun hc => ?_) (fun hc => ?_)
      · replace h := ho_ip hc h
        exact B29 z _ _ _ h hP hS (lv_sub hl [0, 1] rfl)
      · replace h := ho_in hc h
        refine lv_aload_n hx hb dX5_lastBefore_11 rfl (lv_at hl 0 rfl) ?_
        obtain ⟨r3, q, h⟩ := ho_bd h
        refine hw_gr X hP LX5 fX5_9 rfl q dX5_lastBefore_12 ?_
        refine lv_iload_n hx hb dX5_lastBefore_15 rfl (lv_at hl 2 rfl) ?_
        obtain ⟨v4, q, h⟩ := ho_bd h
        refine hw_li X hP q dX5_lastBefore_16 ?_
        refine lv_iload_n hx hb dX5_lastBefore_17 rfl (lv_at hl 1 rfl) ?_
        refine lv_icmp_ge (tgt := 23) hx hb dX5_lastBefore_18 (by decide) (fun hc => ?_) (fun hc => ?_)
        · replace h := ho_ip hc h
          obtain ⟨v5, q, h⟩ := ho_bd h
          refine lv_iinc (v := v5) (lv' := [(2, .int v5), (0, .ref a0), (1, .int x1)]) hx hb dX5_lastBefore_23 hl (k := 2) rfl (Option.some.inj q) (by decide) rfl (fun ls hl => ?_)
          refine lv_goto (tgt := 7) hx hb dX5_lastBefore_26 (by decide) ?_
          exact ih7 v5 z _ _ _ h hP hS (lv_sub hl [1, 2, 0] rfl)
        · replace h := ho_in hc h
          refine lv_iload_n hx hb dX5_lastBefore_21 rfl (lv_at hl 2 rfl) ?_
          exact hw_iret X hP hS hr hlocks h dX5_lastBefore_22
  unfold f_X5_lastBefore at h
  refine lv_aload_n hx hb dX5_lastBefore_0 rfl (lv_at hl 0 rfl) ?_
  obtain ⟨v1, q, h⟩ := ho_bd h
  refine hw_gi X hP LX5 fX5_18 rfl q dX5_lastBefore_1 ?_
  refine lv_iconst (v := 1) hx hb dX5_lastBefore_4 (by decide) ?_
  refine lv_isub hx hb dX5_lastBefore_5 ?_
  obtain ⟨v2, q, h⟩ := ho_bd h
  refine hw_id q ?_
  refine lv_istore_n (lv' := [(2, .int v2), (0, .ref a0), (1, .int x1)]) hx hb dX5_lastBefore_6 rfl hl (by decide) rfl (fun ls hl => ?_)
  exact L7 fu v2 z _ _ _ h hP hS (lv_sub hl [1, 2, 0] rfl)
def f_X3_goBack_B28 (fu : Nat) (a0 : Nat) (a1 : Nat) (a2 : Nat) (x3 : Int32) (x4 : Int32) (z : hp_S) : Option hp_S :=
  some z
def f_X3_goBack (fu : Nat) (a0 : Nat) (a1 : Nat) (a2 : Nat) (x3 : Int32) (x4 : Int32) (z : hp_S) : Option hp_S :=
  (ho_is 5 a2 z).bind fun _ =>
  (f_X5_firstFrom fu a2 x3 z).bind fun ⟨v1, z⟩ =>
  (ho_is 5 a2 z).bind fun _ =>
  (f_X5_lastBefore fu a2 x4 z).bind fun ⟨v2, z⟩ =>
  if v1 = (-1) then (
    f_X3_goBack_B28 fu a0 a1 a2 x3 x4  z
  ) else (
    if v1 ≤ v2 then (
      (ho_gr 3 a0 1 z).bind fun r3 =>
      (ho_gr 5 a2 0 z).bind fun r4 =>
      (ho_li 1 r4 v2 z).bind fun v5 =>
      (ho_is 0 r3 z).bind fun _ =>
      (f_X0_load fu r3 a1 v5 z).bind fun z =>
      (ho_gr 3 a0 2 z).bind fun r6 =>
      (ho_gr 5 a2 0 z).bind fun r7 =>
      (ho_li 1 r7 v1 z).bind fun v8 =>
      (ho_is 0 r6 z).bind fun _ =>
      (f_X0_load fu r6 a1 v8 z).bind fun z =>
      (ho_pi 3 a0 3 v1 z).bind fun z =>
      (ho_is 3 a0 z).bind fun _ =>
      (f_X3_lookAtPair fu a0 z).bind fun z =>
      some z
    ) else (
      f_X3_goBack_B28 fu a0 a1 a2 x3 x4  z
    )
  )
set_option maxHeartbeats 4000000 in
set_option maxRecDepth 100000 in
theorem c_X3_goBack (l : Launch) (G : hp_G) (fu : Nat) (a0 : Nat) (a1 : Nat) (a2 : Nat) (x3 : Int32) (x4 : Int32) (z zq : hp_S) (h : f_X3_goBack fu a0 a1 a2 x3 x4 z = some zq) : hp_M l G yX3_goBack cX3_goBack 7 none 5 118 0 0 [.ref a0, .ref a1, .ref a2, .int x3, .int x4] z (hp_Qv G zq) := by
  refine hp_M.of (by decide) (Nat.le_of_ble_eq_true rfl) ?_
  intro p e s m below meth c X hr hlocks hnm hP hS ls hl
  have X : hp_C G cX3_goBack RX3 7 p s m c := X
  have hl : lv_has ls 7 [(0, .ref a0), (1, .ref a1), (2, .ref a2), (3, .int x3), (4, .int x4)] := hl
  have hx := X.1
  have hb := X.2.1
  have B28 : ∀ (z : hp_S) (H : Heap) (locs : List Loc) (ls : Array Slot), f_X3_goBack_B28 fu a0 a1 a2 x3 x4 z = some zq → hp_P G z H → va_S (hp_A G) s.heap H locs → lv_has ls 7 [(0, .ref a0), (1, .ref a1), (2, .ref a2), (3, .int x3), (4, .int x4)] → W p l e (hp_rm 5 118 0 0) s m [.ref a0, .ref a1, .ref a2, .int x3, .int x4].toArray below meth c H locs 0 0 (MQ below (hp_Qv G zq) [.ref a0, .ref a1, .ref a2, .int x3, .int x4].toArray s 0 0 (hp_A G)) (F0 m 28 ls []) := by
    intro z H locs ls h hP hS hl
    unfold f_X3_goBack_B28 at h
    exact hw_vret X hP hS hr hlocks h dX3_goBack_28
  unfold f_X3_goBack at h
  refine lv_aload_n hx hb dX3_goBack_0 rfl (lv_at hl 2 rfl) ?_
  refine lv_iload_n hx hb dX3_goBack_1 rfl (lv_at hl 3 rfl) ?_
  obtain ⟨_, hs, h⟩ := ho_bd h
  obtain ⟨⟨v1, z⟩, q, h⟩ := ho_bd h
  refine hw_ci hS (hp_runV (As := [.int x3]) (rest := []) X hP hS hl.1 LX5 (ho_is_s hs) kX3_86 ⟨m3_25, m3_26⟩ (c_X5_firstFrom l G fu a2 x3 _ _ _ q) rfl (Nat.le_of_ble_eq_true rfl) ⟨⟨Nat.le_of_ble_eq_true rfl, Nat.le_of_ble_eq_true rfl⟩, Nat.le_of_ble_eq_true rfl, Nat.le_of_ble_eq_true rfl⟩ dX3_goBack_2) (fun H locs hP hS => ?_)
  refine lv_istore (lv' := [(5, .int v1), (0, .ref a0), (1, .ref a1), (2, .ref a2), (3, .int x3), (4, .int x4)]) hx hb dX3_goBack_5 hl (by decide) rfl (fun ls hl => ?_)
  refine lv_aload_n hx hb dX3_goBack_7 rfl (lv_at hl 3 rfl) ?_
  refine lv_iload hx hb dX3_goBack_8 (lv_at hl 5 rfl) ?_
  obtain ⟨_, hs, h⟩ := ho_bd h
  obtain ⟨⟨v2, z⟩, q, h⟩ := ho_bd h
  refine hw_ci hS (hp_runV (As := [.int x4]) (rest := []) X hP hS hl.1 LX5 (ho_is_s hs) kX3_90 ⟨m3_29, m3_30⟩ (c_X5_lastBefore l G fu a2 x4 _ _ _ q) rfl (Nat.le_of_ble_eq_true rfl) ⟨⟨Nat.le_of_ble_eq_true rfl, Nat.le_of_ble_eq_true rfl⟩, Nat.le_of_ble_eq_true rfl, Nat.le_of_ble_eq_true rfl⟩ dX3_goBack_10) (fun H locs hP hS => ?_)
  refine lv_istore (lv' := [(6, .int v2), (5, .int v1), (0, .ref a0), (1, .ref a1), (2, .ref a2), (3, .int x3), (4, .int x4)]) hx hb dX3_goBack_13 hl (by decide) rfl (fun ls hl => ?_)
  refine lv_iload hx hb dX3_goBack_15 (lv_at hl 1 rfl) ?_
  refine lv_iconst (v := (-1)) hx hb dX3_goBack_17 (by decide) ?_
  refine lv_icmp_eq (tgt := 28) hx hb dX3_goBack_18 (by decide) (fun hc => ?_) (fun hc => ?_)
  · replace h := ho_ip hc h
    exact B28 z _ _ _ h hP hS (lv_sub hl [2, 3, 4, 5, 6] rfl)
  · replace h := ho_in hc h
    refine lv_iload hx hb dX3_goBack_21 (lv_at hl 0 rfl) ?_
    refine lv_iload hx hb dX3_goBack_23 (lv_at hl 1 rfl) ?_
    refine lv_icmp_ge (tgt := 29) hx hb dX3_goBack_25 (by decide) (fun hc => ?_) (fun hc => ?_)
    · replace h := ho_ip hc h
      refine lv_aload_n hx hb dX3_goBack_29 rfl (lv_at hl 2 rfl) ?_
      obtain ⟨r3, q, h⟩ := ho_bd h
      refine hw_gr X hP LX3 fX3_21 rfl q dX3_goBack_30 ?_
      refine lv_aload_n hx hb dX3_goBack_33 rfl (lv_at hl 3 rfl) ?_
      refine lv_aload_n hx hb dX3_goBack_34 rfl (lv_at hl 4 rfl) ?_
      obtain ⟨r4, q, h⟩ := ho_bd h
      refine hw_gr X hP LX5 fX3_69 rfl q dX3_goBack_35 ?_
      refine lv_iload hx hb dX3_goBack_38 (lv_at hl 0 rfl) ?_
      obtain ⟨v5, q, h⟩ := ho_bd h
      refine hw_li X hP q dX3_goBack_40 ?_
      obtain ⟨_, hs, h⟩ := ho_bd h
      obtain ⟨z, q, h⟩ := ho_bd h
      refine hw_cv hS (hp_runV (As := [.ref a1, .int v5]) (rest := []) X hP hS hl.1 LX0 (ho_is_s hs) kX3_72 ⟨m2_159, m2_160⟩ (c_X0_load l G fu r3 a1 v5 _ _ q) rfl (Nat.le_of_ble_eq_true rfl) ⟨⟨Nat.le_of_ble_eq_true rfl, Nat.le_of_ble_eq_true rfl⟩, Nat.le_of_ble_eq_true rfl, Nat.le_of_ble_eq_true rfl⟩ dX3_goBack_41) (fun H locs hP hS => ?_)
      refine lv_aload_n hx hb dX3_goBack_44 rfl (lv_at hl 2 rfl) ?_
      obtain ⟨r6, q, h⟩ := ho_bd h
      refine hw_gr X hP LX3 fX3_25 rfl q dX3_goBack_45 ?_
      refine lv_aload_n hx hb dX3_goBack_48 rfl (lv_at hl 3 rfl) ?_
      refine lv_aload_n hx hb dX3_goBack_49 rfl (lv_at hl 4 rfl) ?_
      obtain ⟨r7, q, h⟩ := ho_bd h
      refine hw_gr X hP LX5 fX3_69 rfl q dX3_goBack_50 ?_
      refine lv_iload hx hb dX3_goBack_53 (lv_at hl 1 rfl) ?_
      obtain ⟨v8, q, h⟩ := ho_bd h
      refine hw_li X hP q dX3_goBack_55 ?_
      obtain ⟨_, hs, h⟩ := ho_bd h
      obtain ⟨z, q, h⟩ := ho_bd h
      refine hw_cv hS (hp_runV (As := [.ref a1, .int v8]) (rest := []) X hP hS hl.1 LX0 (ho_is_s hs) kX3_72 ⟨m2_159, m2_160⟩ (c_X0_load l G fu r6 a1 v8 _ _ q) rfl (Nat.le_of_ble_eq_true rfl) ⟨⟨Nat.le_of_ble_eq_true rfl, Nat.le_of_ble_eq_true rfl⟩, Nat.le_of_ble_eq_true rfl, Nat.le_of_ble_eq_true rfl⟩ dX3_goBack_56) (fun H locs hP hS => ?_)
      refine lv_aload_n hx hb dX3_goBack_59 rfl (lv_at hl 2 rfl) ?_
      refine lv_iload hx hb dX3_goBack_60 (lv_at hl 1 rfl) ?_
      obtain ⟨z, q, h⟩ := ho_bd h
      refine hw_pi X hP hS LX3 fX3_76 rfl rfl rfl q dX3_goBack_62 (fun H locs hP hS => ?_)
      refine lv_aload_n hx hb dX3_goBack_65 rfl (lv_at hl 2 rfl) ?_
      obtain ⟨_, hs, h⟩ := ho_bd h
      obtain ⟨z, q, h⟩ := ho_bd h
      refine hw_cv hS (hp_runV (As := []) (rest := []) X hP hS hl.1 LX3 (ho_is_s hs) kX3_83 ⟨m2_215, mp_13⟩ (c_X3_lookAtPair l G fu a0 _ _ q) rfl (Nat.le_of_ble_eq_true rfl) ⟨⟨Nat.le_of_ble_eq_true rfl, Nat.le_of_ble_eq_true rfl⟩, Nat.le_of_ble_eq_true rfl, Nat.le_of_ble_eq_true rfl⟩ dX3_goBack_66) (fun H locs hP hS => ?_)
      exact hw_vret X hP hS hr hlocks h dX3_goBack_69
    · replace h := ho_in hc h
      exact B28 z _ _ _ h hP hS (lv_sub hl [2, 3, 4, 5, 6] rfl)
def f_X2_leaveOut_B61 (fu : Nat) (a0 : Nat) (x1 : Int32) (x2 : Int32) (z : hp_S) : Option hp_S :=
  some z
def f_X2_leaveOut_B55 (fu : Nat) (a0 : Nat) (x1 : Int32) (x2 : Int32) (ag : Int32 → hp_S → Option hp_S) (kk : hp_S → Option hp_S) (w3 : Int32) (z : hp_S) : Option hp_S :=
  (ho_id (w3 + 1)).bind fun v4 =>
  ag v4 z
def f_X2_leaveOut_L2 (fu : Nat) (a0 : Nat) (x1 : Int32) (x2 : Int32) (kk : hp_S → Option hp_S) : Nat → Int32 → hp_S → Option hp_S
  | 0, _, _ => none
  | n + 1, w3, z =>
    (ho_gi 2 a0 2 z).bind fun v1 =>
    if v1 ≤ w3 then (
      kk  z
    ) else (
      (ho_gr 2 a0 1 z).bind fun r2 =>
      (ho_li 1 r2 w3 z).bind fun v3 =>
      if v3 = x2 then (
        (ho_id ((w3 * 14) + x1)).bind fun v5 =>
        (ho_gi 2 a0 5 z).bind fun v6 =>
        (ho_gr 2 a0 0 z).bind fun r7 =>
        (ho_li 1 r7 v5 z).bind fun v8 =>
        (f_J6_bitCount fu v8 z).bind fun ⟨v9, z⟩ =>
        (ho_pi 2 a0 5 (v6 + v9) z).bind fun z =>
        (ho_gr 2 a0 0 z).bind fun r10 =>
        (ho_si r10 v5 0 z).bind fun z =>
        f_X2_leaveOut_B55 fu a0 x1 x2 (f_X2_leaveOut_L2 fu a0 x1 x2 kk n) kk w3 z
      ) else (
        f_X2_leaveOut_B55 fu a0 x1 x2 (f_X2_leaveOut_L2 fu a0 x1 x2 kk n) kk w3 z
      )
    )
def f_X2_leaveOut (fu : Nat) (a0 : Nat) (x1 : Int32) (x2 : Int32) (z : hp_S) : Option hp_S :=
  f_X2_leaveOut_L2 fu a0 x1 x2 (f_X2_leaveOut_B61 fu a0 x1 x2) fu 0 z
set_option maxHeartbeats 4000000 in
set_option maxRecDepth 100000 in
theorem c_X2_leaveOut (l : Launch) (G : hp_G) (fu : Nat) (a0 : Nat) (x1 : Int32) (x2 : Int32) (z zq : hp_S) (h : f_X2_leaveOut fu a0 x1 x2 z = some zq) : hp_M l G yX2_leaveOut cX2_leaveOut 5 none 1 20 0 0 [.ref a0, .int x1, .int x2] z (hp_Qv G zq) := by
  refine hp_M.of (by decide) (Nat.le_of_ble_eq_true rfl) ?_
  intro p e s m below meth c X hr hlocks hnm hP hS ls hl
  have X : hp_C G cX2_leaveOut RX2 5 p s m c := X
  have hl : lv_has ls 5 [(0, .ref a0), (1, .int x1), (2, .int x2)] := hl
  have hx := X.1
  have hb := X.2.1
  have B61 : ∀ (z : hp_S) (H : Heap) (locs : List Loc) (ls : Array Slot), f_X2_leaveOut_B61 fu a0 x1 x2 z = some zq → hp_P G z H → va_S (hp_A G) s.heap H locs → lv_has ls 5 [(0, .ref a0), (1, .int x1), (2, .int x2)] → W p l e (hp_rm 1 20 0 0) s m [.ref a0, .int x1, .int x2].toArray below meth c H locs 0 0 (MQ below (hp_Qv G zq) [.ref a0, .int x1, .int x2].toArray s 0 0 (hp_A G)) (F0 m 61 ls []) := by
    intro z H locs ls h hP hS hl
    unfold f_X2_leaveOut_B61 at h
    exact hw_vret X hP hS hr hlocks h dX2_leaveOut_61
  have L2 : ∀ (n2 : Nat) (w3 : Int32) (z : hp_S) (H : Heap) (locs : List Loc) (ls : Array Slot), f_X2_leaveOut_L2 fu a0 x1 x2 (f_X2_leaveOut_B61 fu a0 x1 x2) n2 w3 z = some zq → hp_P G z H → va_S (hp_A G) s.heap H locs → lv_has ls 5 [(0, .ref a0), (1, .int x1), (2, .int x2), (3, .int w3)] → W p l e (hp_rm 1 20 0 0) s m [.ref a0, .int x1, .int x2].toArray below meth c H locs 0 0 (MQ below (hp_Qv G zq) [.ref a0, .int x1, .int x2].toArray s 0 0 (hp_A G)) (F0 m 2 ls []) := by
    intro n2
    induction n2 with
    | zero =>
      intro w3 z H locs ls h
      exact nomatch (h : (none : Option hp_S) = some zq)
    | succ n2 ih2 =>
      have B55 : ∀ (w3 : Int32) (z : hp_S) (H : Heap) (locs : List Loc) (ls : Array Slot), f_X2_leaveOut_B55 fu a0 x1 x2 (f_X2_leaveOut_L2 fu a0 x1 x2 (f_X2_leaveOut_B61 fu a0 x1 x2) n2) (f_X2_leaveOut_B61 fu a0 x1 x2) w3 z = some zq → hp_P G z H → va_S (hp_A G) s.heap H locs → lv_has ls 5 [(0, .ref a0), (1, .int x1), (2, .int x2), (3, .int w3)] → W p l e (hp_rm 1 20 0 0) s m [.ref a0, .int x1, .int x2].toArray below meth c H locs 0 0 (MQ below (hp_Qv G zq) [.ref a0, .int x1, .int x2].toArray s 0 0 (hp_A G)) (F0 m 55 ls []) := by
        intro w3 z H locs ls h hP hS hl
        unfold f_X2_leaveOut_B55 at h
        obtain ⟨v4, q, h⟩ := ho_bd h
        refine lv_iinc (v := v4) (lv' := [(3, .int v4), (0, .ref a0), (1, .int x1), (2, .int x2)]) hx hb dX2_leaveOut_55 hl (k := 3) rfl (Option.some.inj q) (by decide) rfl (fun ls hl => ?_)
        refine lv_goto (tgt := 2) hx hb dX2_leaveOut_58 (by decide) ?_
        exact ih2 v4 z _ _ _ h hP hS (lv_sub hl [1, 2, 3, 0] rfl)
      intro w3 z H locs ls h hP hS hl
      rw [f_X2_leaveOut_L2] at h
      refine lv_iload_n hx hb dX2_leaveOut_2 rfl (lv_at hl 3 rfl) ?_
      refine lv_aload_n hx hb dX2_leaveOut_3 rfl (lv_at hl 0 rfl) ?_
      obtain ⟨v1, q, h⟩ := ho_bd h
      refine hw_gi X hP LX2 fX2_27 rfl q dX2_leaveOut_4 ?_
      refine lv_icmp_ge (tgt := 61) hx hb dX2_leaveOut_7 (by decide) (fun hc => ?_) (fun hc => ?_)
      · replace h := ho_ip hc h
        exact B61 z _ _ _ h hP hS (lv_sub hl [0, 1, 2] rfl)
      · replace h := ho_in hc h
        refine lv_aload_n hx hb dX2_leaveOut_10 rfl (lv_at hl 0 rfl) ?_
        obtain ⟨r2, q, h⟩ := ho_bd h
        refine hw_gr X hP LX2 fX2_15 rfl q dX2_leaveOut_11 ?_
        refine lv_iload_n hx hb dX2_leaveOut_14 rfl (lv_at hl 3 rfl) ?_
        obtain ⟨v3, q, h⟩ := ho_bd h
        refine hw_li X hP q dX2_leaveOut_15 ?_
        refine lv_iload_n hx hb dX2_leaveOut_16 rfl (lv_at hl 2 rfl) ?_
        refine lv_icmp_ne (tgt := 55) hx hb dX2_leaveOut_17 (by decide) (fun hc => ?_) (fun hc => ?_)
        · replace h := ho_in hc h
          exact B55 w3 z _ _ _ h hP hS (lv_sub hl [0, 1, 2, 3] rfl)
        · replace h := ho_ip hc h
          refine lv_iload_n hx hb dX2_leaveOut_20 rfl (lv_at hl 3 rfl) ?_
          refine lv_bipush (v := 14) hx hb dX2_leaveOut_21 (by decide) ?_
          refine lv_imul hx hb dX2_leaveOut_23 ?_
          refine lv_iload_n hx hb dX2_leaveOut_24 rfl (lv_at hl 1 rfl) ?_
          refine lv_iadd hx hb dX2_leaveOut_25 ?_
          obtain ⟨v5, q, h⟩ := ho_bd h
          refine hw_id q ?_
          refine lv_istore (lv' := [(4, .int v5), (0, .ref a0), (1, .int x1), (2, .int x2), (3, .int w3)]) hx hb dX2_leaveOut_26 hl (by decide) rfl (fun ls hl => ?_)
          refine lv_aload_n hx hb dX2_leaveOut_28 rfl (lv_at hl 1 rfl) ?_
          refine lv_dup hx hb dX2_leaveOut_29 rfl ?_
          obtain ⟨v6, q, h⟩ := ho_bd h
          refine hw_gi X hP LX2 fX2_34 rfl q dX2_leaveOut_30 ?_
          refine lv_aload_n hx hb dX2_leaveOut_33 rfl (lv_at hl 1 rfl) ?_
          obtain ⟨r7, q, h⟩ := ho_bd h
          refine hw_gr X hP LX2 fX2_9 rfl q dX2_leaveOut_34 ?_
          refine lv_iload hx hb dX2_leaveOut_37 (lv_at hl 0 rfl) ?_
          obtain ⟨v8, q, h⟩ := ho_bd h
          refine hw_li X hP q dX2_leaveOut_39 ?_
          obtain ⟨⟨v9, z⟩, q, h⟩ := ho_bd h
          refine hw_ci hS (hp_runS (As := [.int v8]) (rest := [.int v6, .ref a0]) X hP hS hl.1 kX2_52 m2_73 (c_J6_bitCount l G fu v8 _ _ _ q) rfl (Nat.le_of_ble_eq_true rfl) ⟨⟨Nat.le_of_ble_eq_true rfl, Nat.le_of_ble_eq_true rfl⟩, Nat.le_of_ble_eq_true rfl, Nat.le_of_ble_eq_true rfl⟩ dX2_leaveOut_40) (fun H locs hP hS => ?_)
          refine lv_iadd hx hb dX2_leaveOut_43 ?_
          obtain ⟨z, q, h⟩ := ho_bd h
          refine hw_pi X hP hS LX2 fX2_34 rfl rfl rfl q dX2_leaveOut_44 (fun H locs hP hS => ?_)
          refine lv_aload_n hx hb dX2_leaveOut_47 rfl (lv_at hl 1 rfl) ?_
          obtain ⟨r10, q, h⟩ := ho_bd h
          refine hw_gr X hP LX2 fX2_9 rfl q dX2_leaveOut_48 ?_
          refine lv_iload hx hb dX2_leaveOut_51 (lv_at hl 0 rfl) ?_
          refine lv_iconst (v := 0) hx hb dX2_leaveOut_53 (by decide) ?_
          obtain ⟨z, q, h⟩ := ho_bd h
          refine hw_si X hP hS q dX2_leaveOut_54 (fun H locs hP hS => ?_)
          exact B55 w3 z _ _ _ h hP hS (lv_sub hl [1, 2, 3, 4] rfl)
  unfold f_X2_leaveOut at h
  refine lv_iconst (v := 0) hx hb dX2_leaveOut_0 (by decide) ?_
  refine lv_istore_n (lv' := [(3, .int 0), (0, .ref a0), (1, .int x1), (2, .int x2)]) hx hb dX2_leaveOut_1 rfl hl (by decide) rfl (fun ls hl => ?_)
  exact L2 fu 0 z _ _ _ h hP hS (lv_sub hl [1, 2, 3, 0] rfl)
def f_X2_sum_B52 (fu : Nat) (a0 : Nat) (z : hp_S) : Option (Int32 × hp_S) :=
  (ho_gi 2 a0 4 z).bind fun v1 =>
  some (v1, z)
def f_X2_sum_L2 (fu : Nat) (a0 : Nat) (kk : hp_S → Option (Int32 × hp_S)) : Nat → Int32 → hp_S → Option (Int32 × hp_S)
  | 0, _, _ => none
  | n + 1, w1, z =>
    (ho_gi 2 a0 2 z).bind fun v2 =>
    if (v2 * 14) ≤ w1 then (
      kk  z
    ) else (
      (ho_gr 2 a0 0 z).bind fun r3 =>
      (ho_li 1 r3 w1 z).bind fun v4 =>
      (f_J6_bitCount fu v4 z).bind fun ⟨v5, z⟩ =>
      (ho_gr 2 a0 3 z).bind fun r6 =>
      (ho_rm w1 14).bind fun v7 =>
      (ho_li 1 r6 v7 z).bind fun v8 =>
      (ho_si r6 v7 (v8 + v5) z).bind fun z =>
      (ho_gi 2 a0 4 z).bind fun v9 =>
      (ho_pi 2 a0 4 (v9 + v5) z).bind fun z =>
      (ho_id (w1 + 1)).bind fun v10 =>
      (f_X2_sum_L2 fu a0 kk n) v10 z
    )
def f_X2_sum (fu : Nat) (a0 : Nat) (z : hp_S) : Option (Int32 × hp_S) :=
  f_X2_sum_L2 fu a0 (f_X2_sum_B52 fu a0) fu 0 z
set_option maxHeartbeats 4000000 in
set_option maxRecDepth 100000 in
theorem c_X2_sum (l : Launch) (G : hp_G) (fu : Nat) (a0 : Nat) (z : hp_S) (rq : Int32) (zq : hp_S) (h : f_X2_sum fu a0 z = some (rq, zq)) : hp_M l G yX2_sum cX2_sum 3 (some .int) 1 20 0 0 [.ref a0] z (hp_Qi G rq zq) := by
  refine hp_M.of (by decide) (Nat.le_of_ble_eq_true rfl) ?_
  intro p e s m below meth c X hr hlocks hnm hP hS ls hl
  have X : hp_C G cX2_sum RX2 3 p s m c := X
  have hl : lv_has ls 3 [(0, .ref a0)] := hl
  have hx := X.1
  have hb := X.2.1
  have B52 : ∀ (z : hp_S) (H : Heap) (locs : List Loc) (ls : Array Slot), f_X2_sum_B52 fu a0 z = some (rq, zq) → hp_P G z H → va_S (hp_A G) s.heap H locs → lv_has ls 3 [(0, .ref a0)] → W p l e (hp_rm 1 20 0 0) s m [.ref a0].toArray below meth c H locs 0 0 (MQ below (hp_Qi G rq zq) [.ref a0].toArray s 0 0 (hp_A G)) (F0 m 52 ls []) := by
    intro z H locs ls h hP hS hl
    unfold f_X2_sum_B52 at h
    refine lv_aload_n hx hb dX2_sum_52 rfl (lv_at hl 0 rfl) ?_
    obtain ⟨v1, q, h⟩ := ho_bd h
    refine hw_gi X hP LX2 fX2_31 rfl q dX2_sum_53 ?_
    exact hw_iret X hP hS hr hlocks h dX2_sum_56
  have L2 : ∀ (n2 : Nat) (w1 : Int32) (z : hp_S) (H : Heap) (locs : List Loc) (ls : Array Slot), f_X2_sum_L2 fu a0 (f_X2_sum_B52 fu a0) n2 w1 z = some (rq, zq) → hp_P G z H → va_S (hp_A G) s.heap H locs → lv_has ls 3 [(0, .ref a0), (1, .int w1)] → W p l e (hp_rm 1 20 0 0) s m [.ref a0].toArray below meth c H locs 0 0 (MQ below (hp_Qi G rq zq) [.ref a0].toArray s 0 0 (hp_A G)) (F0 m 2 ls []) := by
    intro n2
    induction n2 with
    | zero =>
      intro w1 z H locs ls h
      exact nomatch (h : (none : Option (Int32 × hp_S)) = some (rq, zq))
    | succ n2 ih2 =>
      intro w1 z H locs ls h hP hS hl
      rw [f_X2_sum_L2] at h
      refine lv_iload_n hx hb dX2_sum_2 rfl (lv_at hl 1 rfl) ?_
      refine lv_aload_n hx hb dX2_sum_3 rfl (lv_at hl 0 rfl) ?_
      obtain ⟨v2, q, h⟩ := ho_bd h
      refine hw_gi X hP LX2 fX2_27 rfl q dX2_sum_4 ?_
      refine lv_bipush (v := 14) hx hb dX2_sum_7 (by decide) ?_
      refine lv_imul hx hb dX2_sum_9 ?_
      refine lv_icmp_ge (tgt := 52) hx hb dX2_sum_10 (by decide) (fun hc => ?_) (fun hc => ?_)
      · replace h := ho_ip hc h
        exact B52 z _ _ _ h hP hS (lv_sub hl [0] rfl)
      · replace h := ho_in hc h
        refine lv_aload_n hx hb dX2_sum_13 rfl (lv_at hl 0 rfl) ?_
        obtain ⟨r3, q, h⟩ := ho_bd h
        refine hw_gr X hP LX2 fX2_9 rfl q dX2_sum_14 ?_
        refine lv_iload_n hx hb dX2_sum_17 rfl (lv_at hl 1 rfl) ?_
        obtain ⟨v4, q, h⟩ := ho_bd h
        refine hw_li X hP q dX2_sum_18 ?_
        obtain ⟨⟨v5, z⟩, q, h⟩ := ho_bd h
        refine hw_ci hS (hp_runS (As := [.int v4]) (rest := []) X hP hS hl.1 kX2_52 m2_73 (c_J6_bitCount l G fu v4 _ _ _ q) rfl (Nat.le_of_ble_eq_true rfl) ⟨⟨Nat.le_of_ble_eq_true rfl, Nat.le_of_ble_eq_true rfl⟩, Nat.le_of_ble_eq_true rfl, Nat.le_of_ble_eq_true rfl⟩ dX2_sum_19) (fun H locs hP hS => ?_)
        refine lv_istore_n (lv' := [(2, .int v5), (0, .ref a0), (1, .int w1)]) hx hb dX2_sum_22 rfl hl (by decide) rfl (fun ls hl => ?_)
        refine lv_aload_n hx hb dX2_sum_23 rfl (lv_at hl 1 rfl) ?_
        obtain ⟨r6, q, h⟩ := ho_bd h
        refine hw_gr X hP LX2 fX2_18 rfl q dX2_sum_24 ?_
        refine lv_iload_n hx hb dX2_sum_27 rfl (lv_at hl 2 rfl) ?_
        refine lv_bipush (v := 14) hx hb dX2_sum_28 (by decide) ?_
        obtain ⟨v7, q, h⟩ := ho_bd h
        refine hw_rm X q dX2_sum_30 ?_
        refine lv_dup2_11 hx hb dX2_sum_31 rfl rfl ?_
        obtain ⟨v8, q, h⟩ := ho_bd h
        refine hw_li X hP q dX2_sum_32 ?_
        refine lv_iload_n hx hb dX2_sum_33 rfl (lv_at hl 0 rfl) ?_
        refine lv_iadd hx hb dX2_sum_34 ?_
        obtain ⟨z, q, h⟩ := ho_bd h
        refine hw_si X hP hS q dX2_sum_35 (fun H locs hP hS => ?_)
        refine lv_aload_n hx hb dX2_sum_36 rfl (lv_at hl 1 rfl) ?_
        refine lv_dup hx hb dX2_sum_37 rfl ?_
        obtain ⟨v9, q, h⟩ := ho_bd h
        refine hw_gi X hP LX2 fX2_31 rfl q dX2_sum_38 ?_
        refine lv_iload_n hx hb dX2_sum_41 rfl (lv_at hl 0 rfl) ?_
        refine lv_iadd hx hb dX2_sum_42 ?_
        obtain ⟨z, q, h⟩ := ho_bd h
        refine hw_pi X hP hS LX2 fX2_31 rfl rfl rfl q dX2_sum_43 (fun H locs hP hS => ?_)
        obtain ⟨v10, q, h⟩ := ho_bd h
        refine lv_iinc (v := v10) (lv' := [(1, .int v10), (2, .int v5), (0, .ref a0)]) hx hb dX2_sum_46 hl (k := 2) rfl (Option.some.inj q) (by decide) rfl (fun ls hl => ?_)
        refine lv_goto (tgt := 2) hx hb dX2_sum_49 (by decide) ?_
        exact ih2 v10 z _ _ _ h hP hS (lv_sub hl [2, 0] rfl)
  unfold f_X2_sum at h
  refine lv_iconst (v := 0) hx hb dX2_sum_0 (by decide) ?_
  refine lv_istore_n (lv' := [(1, .int 0), (0, .ref a0)]) hx hb dX2_sum_1 rfl hl (by decide) rfl (fun ls hl => ?_)
  exact L2 fu 0 z _ _ _ h hP hS (lv_sub hl [1, 0] rfl)
def f_X6_judge_B131 (fu : Nat) (a0 : Nat) (w1 : Nat) (z : hp_S) : Option (Int32 × hp_S) :=
  (ho_is 2 w1 z).bind fun _ =>
  (f_X2_sum fu w1 z).bind fun ⟨v9, z⟩ =>
  some (v9, z)
def f_X6_judge_L92 (fu : Nat) (a0 : Nat) (kk : Nat → hp_S → Option (Int32 × hp_S)) : Nat → Nat → Int32 → hp_S → Option (Int32 × hp_S)
  | 0, _, _, _ => none
  | n + 1, w1, w2, z =>
    (ho_gr 6 a0 3 z).bind fun r10 =>
    (ho_gi 1 r10 2 z).bind fun v11 =>
    if v11 ≤ w2 then (
      kk w1 z
    ) else (
      (ho_gr 6 a0 3 z).bind fun r12 =>
      (ho_gr 1 r12 0 z).bind fun r13 =>
      (ho_li 1 r13 w2 z).bind fun v14 =>
      (ho_gr 6 a0 3 z).bind fun r15 =>
      (ho_gr 1 r15 1 z).bind fun r16 =>
      (ho_li 1 r16 w2 z).bind fun v17 =>
      (ho_is 2 w1 z).bind fun _ =>
      (f_X2_leaveOut fu w1 v14 v17 z).bind fun z =>
      (ho_id (w2 + 1)).bind fun v18 =>
      (f_X6_judge_L92 fu a0 kk n) w1 v18 z
    )
def f_X6_judge_B82 (fu : Nat) (a0 : Nat) (z : hp_S) : Option (Int32 × hp_S) :=
  (ho_gr 6 a0 4 z).bind fun r7 =>
  (ho_gr 3 r7 0 z).bind fun r8 =>
  f_X6_judge_L92 fu a0 (f_X6_judge_B131 fu a0) fu r8 0 z
def f_X6_judge_L32 (fu : Nat) (a0 : Nat) (kk : hp_S → Option (Int32 × hp_S)) : Nat → Int32 → hp_S → Option (Int32 × hp_S)
  | 0, _, _ => none
  | n + 1, w1, z =>
    (ho_gr 6 a0 2 z).bind fun r19 =>
    (ho_gi 1 r19 2 z).bind fun v20 =>
    if v20 ≤ w1 then (
      kk  z
    ) else (
      (ho_gr 6 a0 4 z).bind fun r21 =>
      (ho_gr 6 a0 0 z).bind fun r22 =>
      (ho_gr 6 a0 1 z).bind fun r23 =>
      (ho_gr 6 a0 2 z).bind fun r24 =>
      (ho_gr 1 r24 0 z).bind fun r25 =>
      (ho_li 1 r25 w1 z).bind fun v26 =>
      (ho_gr 6 a0 2 z).bind fun r27 =>
      (ho_gr 1 r27 1 z).bind fun r28 =>
      (ho_li 1 r28 w1 z).bind fun v29 =>
      (ho_is 3 r21 z).bind fun _ =>
      (f_X3_goBack fu r21 r22 r23 v26 v29 z).bind fun z =>
      (ho_id (w1 + 1)).bind fun v30 =>
      (f_X6_judge_L32 fu a0 kk n) v30 z
    )
def f_X6_judge (fu : Nat) (a0 : Nat) (z : hp_S) : Option (Int32 × hp_S) :=
  (ho_gr 6 a0 4 z).bind fun r1 =>
  (ho_gi 6 a0 6 z).bind fun v2 =>
  (ho_gi 6 a0 7 z).bind fun v3 =>
  (ho_is 3 r1 z).bind fun _ =>
  (f_X3_begin fu r1 v2 v3 z).bind fun z =>
  (ho_gr 6 a0 4 z).bind fun r4 =>
  (ho_gr 6 a0 0 z).bind fun r5 =>
  (ho_gr 6 a0 1 z).bind fun r6 =>
  (ho_is 3 r4 z).bind fun _ =>
  (f_X3_walk fu r4 r5 r6 z).bind fun z =>
  f_X6_judge_L32 fu a0 (f_X6_judge_B82 fu a0) fu 0 z
set_option maxHeartbeats 4000000 in
set_option maxRecDepth 100000 in
theorem c_X6_judge (l : Launch) (G : hp_G) (fu : Nat) (a0 : Nat) (z : hp_S) (rq : Int32) (zq : hp_S) (h : f_X6_judge fu a0 z = some (rq, zq)) : hp_M l G yX6_judge cX6_judge 3 (some .int) 6 144 0 0 [.ref a0] z (hp_Qi G rq zq) := by
  refine hp_M.of (by decide) (Nat.le_of_ble_eq_true rfl) ?_
  intro p e s m below meth c X hr hlocks hnm hP hS ls hl
  have X : hp_C G cX6_judge RX6 3 p s m c := X
  have hl : lv_has ls 3 [(0, .ref a0)] := hl
  have hx := X.1
  have hb := X.2.1
  have B131 : ∀ (w1 : Nat) (z : hp_S) (H : Heap) (locs : List Loc) (ls : Array Slot), f_X6_judge_B131 fu a0 w1 z = some (rq, zq) → hp_P G z H → va_S (hp_A G) s.heap H locs → lv_has ls 3 [(0, .ref a0), (1, .ref w1)] → W p l e (hp_rm 6 144 0 0) s m [.ref a0].toArray below meth c H locs 0 0 (MQ below (hp_Qi G rq zq) [.ref a0].toArray s 0 0 (hp_A G)) (F0 m 131 ls []) := by
    intro w1 z H locs ls h hP hS hl
    unfold f_X6_judge_B131 at h
    refine lv_aload_n hx hb dX6_judge_131 rfl (lv_at hl 1 rfl) ?_
    obtain ⟨_, hs, h⟩ := ho_bd h
    obtain ⟨⟨v9, z⟩, q, h⟩ := ho_bd h
    refine hw_ci hS (hp_runV (As := []) (rest := []) X hP hS hl.1 LX2 (ho_is_s hs) kX6_155 ⟨m3_38, m3_39⟩ (c_X2_sum l G fu w1 _ _ _ q) rfl (Nat.le_of_ble_eq_true rfl) ⟨⟨Nat.le_of_ble_eq_true rfl, Nat.le_of_ble_eq_true rfl⟩, Nat.le_of_ble_eq_true rfl, Nat.le_of_ble_eq_true rfl⟩ dX6_judge_132) (fun H locs hP hS => ?_)
    exact hw_iret X hP hS hr hlocks h dX6_judge_135
  have L92 : ∀ (n92 : Nat) (w1 : Nat) (w2 : Int32) (z : hp_S) (H : Heap) (locs : List Loc) (ls : Array Slot), f_X6_judge_L92 fu a0 (f_X6_judge_B131 fu a0) n92 w1 w2 z = some (rq, zq) → hp_P G z H → va_S (hp_A G) s.heap H locs → lv_has ls 3 [(0, .ref a0), (1, .ref w1), (2, .int w2)] → W p l e (hp_rm 6 144 0 0) s m [.ref a0].toArray below meth c H locs 0 0 (MQ below (hp_Qi G rq zq) [.ref a0].toArray s 0 0 (hp_A G)) (F0 m 92 ls []) := by
    intro n92
    induction n92 with
    | zero =>
      intro w1 w2 z H locs ls h
      exact nomatch (h : (none : Option (Int32 × hp_S)) = some (rq, zq))
    | succ n92 ih92 =>
      intro w1 w2 z H locs ls h hP hS hl
      rw [f_X6_judge_L92] at h
      refine lv_iload_n hx hb dX6_judge_92 rfl (lv_at hl 2 rfl) ?_
      refine lv_aload_n hx hb dX6_judge_93 rfl (lv_at hl 0 rfl) ?_
      obtain ⟨r10, q, h⟩ := ho_bd h
      refine hw_gr X hP LX6 fX6_41 rfl q dX6_judge_94 ?_
      obtain ⟨v11, q, h⟩ := ho_bd h
      refine hw_gi X hP LX1 fX6_72 rfl q dX6_judge_97 ?_
      refine lv_icmp_ge (tgt := 131) hx hb dX6_judge_100 (by decide) (fun hc => ?_) (fun hc => ?_)
      · replace h := ho_ip hc h
        exact B131 w1 z _ _ _ h hP hS (lv_sub hl [0, 1] rfl)
      · replace h := ho_in hc h
        refine lv_aload_n hx hb dX6_judge_103 rfl (lv_at hl 1 rfl) ?_
        refine lv_aload_n hx hb dX6_judge_104 rfl (lv_at hl 0 rfl) ?_
        obtain ⟨r12, q, h⟩ := ho_bd h
        refine hw_gr X hP LX6 fX6_41 rfl q dX6_judge_105 ?_
        obtain ⟨r13, q, h⟩ := ho_bd h
        refine hw_gr X hP LX1 fX6_142 rfl q dX6_judge_108 ?_
        refine lv_iload_n hx hb dX6_judge_111 rfl (lv_at hl 2 rfl) ?_
        obtain ⟨v14, q, h⟩ := ho_bd h
        refine hw_li X hP q dX6_judge_112 ?_
        refine lv_aload_n hx hb dX6_judge_113 rfl (lv_at hl 0 rfl) ?_
        obtain ⟨r15, q, h⟩ := ho_bd h
        refine hw_gr X hP LX6 fX6_41 rfl q dX6_judge_114 ?_
        obtain ⟨r16, q, h⟩ := ho_bd h
        refine hw_gr X hP LX1 fX6_145 rfl q dX6_judge_117 ?_
        refine lv_iload_n hx hb dX6_judge_120 rfl (lv_at hl 2 rfl) ?_
        obtain ⟨v17, q, h⟩ := ho_bd h
        refine hw_li X hP q dX6_judge_121 ?_
        obtain ⟨_, hs, h⟩ := ho_bd h
        obtain ⟨z, q, h⟩ := ho_bd h
        refine hw_cv hS (hp_runV (As := [.int v14, .int v17]) (rest := []) X hP hS hl.1 LX2 (ho_is_s hs) kX6_152 ⟨m3_33, m3_34⟩ (c_X2_leaveOut l G fu w1 v14 v17 _ _ q) rfl (Nat.le_of_ble_eq_true rfl) ⟨⟨Nat.le_of_ble_eq_true rfl, Nat.le_of_ble_eq_true rfl⟩, Nat.le_of_ble_eq_true rfl, Nat.le_of_ble_eq_true rfl⟩ dX6_judge_122) (fun H locs hP hS => ?_)
        obtain ⟨v18, q, h⟩ := ho_bd h
        refine lv_iinc (v := v18) (lv' := [(2, .int v18), (0, .ref a0), (1, .ref w1)]) hx hb dX6_judge_125 hl (k := 2) rfl (Option.some.inj q) (by decide) rfl (fun ls hl => ?_)
        refine lv_goto (tgt := 92) hx hb dX6_judge_128 (by decide) ?_
        exact ih92 w1 v18 z _ _ _ h hP hS (lv_sub hl [1, 2, 0] rfl)
  have B82 : ∀ (z : hp_S) (H : Heap) (locs : List Loc) (ls : Array Slot), f_X6_judge_B82 fu a0 z = some (rq, zq) → hp_P G z H → va_S (hp_A G) s.heap H locs → lv_has ls 3 [(0, .ref a0)] → W p l e (hp_rm 6 144 0 0) s m [.ref a0].toArray below meth c H locs 0 0 (MQ below (hp_Qi G rq zq) [.ref a0].toArray s 0 0 (hp_A G)) (F0 m 82 ls []) := by
    intro z H locs ls h hP hS hl
    unfold f_X6_judge_B82 at h
    refine lv_aload_n hx hb dX6_judge_82 rfl (lv_at hl 0 rfl) ?_
    obtain ⟨r7, q, h⟩ := ho_bd h
    refine hw_gr X hP LX6 fX6_47 rfl q dX6_judge_83 ?_
    obtain ⟨r8, q, h⟩ := ho_bd h
    refine hw_gr X hP LX3 fX6_73 rfl q dX6_judge_86 ?_
    refine lv_astore_n (lv' := [(1, .ref r8), (0, .ref a0)]) hx hb dX6_judge_89 rfl hl (by decide) rfl (fun ls hl => ?_)
    refine lv_iconst (v := 0) hx hb dX6_judge_90 (by decide) ?_
    refine lv_istore_n (lv' := [(2, .int 0), (1, .ref r8), (0, .ref a0)]) hx hb dX6_judge_91 rfl hl (by decide) rfl (fun ls hl => ?_)
    exact L92 fu r8 0 z _ _ _ h hP hS (lv_sub hl [2, 1, 0] rfl)
  have L32 : ∀ (n32 : Nat) (w1 : Int32) (z : hp_S) (H : Heap) (locs : List Loc) (ls : Array Slot), f_X6_judge_L32 fu a0 (f_X6_judge_B82 fu a0) n32 w1 z = some (rq, zq) → hp_P G z H → va_S (hp_A G) s.heap H locs → lv_has ls 3 [(0, .ref a0), (1, .int w1)] → W p l e (hp_rm 6 144 0 0) s m [.ref a0].toArray below meth c H locs 0 0 (MQ below (hp_Qi G rq zq) [.ref a0].toArray s 0 0 (hp_A G)) (F0 m 32 ls []) := by
    intro n32
    induction n32 with
    | zero =>
      intro w1 z H locs ls h
      exact nomatch (h : (none : Option (Int32 × hp_S)) = some (rq, zq))
    | succ n32 ih32 =>
      intro w1 z H locs ls h hP hS hl
      rw [f_X6_judge_L32] at h
      refine lv_iload_n hx hb dX6_judge_32 rfl (lv_at hl 1 rfl) ?_
      refine lv_aload_n hx hb dX6_judge_33 rfl (lv_at hl 0 rfl) ?_
      obtain ⟨r19, q, h⟩ := ho_bd h
      refine hw_gr X hP LX6 fX6_37 rfl q dX6_judge_34 ?_
      obtain ⟨v20, q, h⟩ := ho_bd h
      refine hw_gi X hP LX1 fX6_72 rfl q dX6_judge_37 ?_
      refine lv_icmp_ge (tgt := 82) hx hb dX6_judge_40 (by decide) (fun hc => ?_) (fun hc => ?_)
      · replace h := ho_ip hc h
        exact B82 z _ _ _ h hP hS (lv_sub hl [0] rfl)
      · replace h := ho_in hc h
        refine lv_aload_n hx hb dX6_judge_43 rfl (lv_at hl 0 rfl) ?_
        obtain ⟨r21, q, h⟩ := ho_bd h
        refine hw_gr X hP LX6 fX6_47 rfl q dX6_judge_44 ?_
        refine lv_aload_n hx hb dX6_judge_47 rfl (lv_at hl 0 rfl) ?_
        obtain ⟨r22, q, h⟩ := ho_bd h
        refine hw_gr X hP LX6 fX6_20 rfl q dX6_judge_48 ?_
        refine lv_aload_n hx hb dX6_judge_51 rfl (lv_at hl 0 rfl) ?_
        obtain ⟨r23, q, h⟩ := ho_bd h
        refine hw_gr X hP LX6 fX6_28 rfl q dX6_judge_52 ?_
        refine lv_aload_n hx hb dX6_judge_55 rfl (lv_at hl 0 rfl) ?_
        obtain ⟨r24, q, h⟩ := ho_bd h
        refine hw_gr X hP LX6 fX6_37 rfl q dX6_judge_56 ?_
        obtain ⟨r25, q, h⟩ := ho_bd h
        refine hw_gr X hP LX1 fX6_142 rfl q dX6_judge_59 ?_
        refine lv_iload_n hx hb dX6_judge_62 rfl (lv_at hl 1 rfl) ?_
        obtain ⟨v26, q, h⟩ := ho_bd h
        refine hw_li X hP q dX6_judge_63 ?_
        refine lv_aload_n hx hb dX6_judge_64 rfl (lv_at hl 0 rfl) ?_
        obtain ⟨r27, q, h⟩ := ho_bd h
        refine hw_gr X hP LX6 fX6_37 rfl q dX6_judge_65 ?_
        obtain ⟨r28, q, h⟩ := ho_bd h
        refine hw_gr X hP LX1 fX6_145 rfl q dX6_judge_68 ?_
        refine lv_iload_n hx hb dX6_judge_71 rfl (lv_at hl 1 rfl) ?_
        obtain ⟨v29, q, h⟩ := ho_bd h
        refine hw_li X hP q dX6_judge_72 ?_
        obtain ⟨_, hs, h⟩ := ho_bd h
        obtain ⟨z, q, h⟩ := ho_bd h
        refine hw_cv hS (hp_runV (As := [.ref r22, .ref r23, .int v26, .int v29]) (rest := []) X hP hS hl.1 LX3 (ho_is_s hs) kX6_148 ⟨m3_21, m3_22⟩ (c_X3_goBack l G fu r21 r22 r23 v26 v29 _ _ q) rfl (Nat.le_of_ble_eq_true rfl) ⟨⟨Nat.le_of_ble_eq_true rfl, Nat.le_of_ble_eq_true rfl⟩, Nat.le_of_ble_eq_true rfl, Nat.le_of_ble_eq_true rfl⟩ dX6_judge_73) (fun H locs hP hS => ?_)
        obtain ⟨v30, q, h⟩ := ho_bd h
        refine lv_iinc (v := v30) (lv' := [(1, .int v30), (0, .ref a0)]) hx hb dX6_judge_76 hl (k := 1) rfl (Option.some.inj q) (by decide) rfl (fun ls hl => ?_)
        refine lv_goto (tgt := 32) hx hb dX6_judge_79 (by decide) ?_
        exact ih32 v30 z _ _ _ h hP hS (lv_sub hl [1, 0] rfl)
  unfold f_X6_judge at h
  refine lv_aload_n hx hb dX6_judge_0 rfl (lv_at hl 0 rfl) ?_
  obtain ⟨r1, q, h⟩ := ho_bd h
  refine hw_gr X hP LX6 fX6_47 rfl q dX6_judge_1 ?_
  refine lv_aload_n hx hb dX6_judge_4 rfl (lv_at hl 0 rfl) ?_
  obtain ⟨v2, q, h⟩ := ho_bd h
  refine hw_gi X hP LX6 fX6_62 rfl q dX6_judge_5 ?_
  refine lv_aload_n hx hb dX6_judge_8 rfl (lv_at hl 0 rfl) ?_
  obtain ⟨v3, q, h⟩ := ho_bd h
  refine hw_gi X hP LX6 fX6_80 rfl q dX6_judge_9 ?_
  obtain ⟨_, hs, h⟩ := ho_bd h
  obtain ⟨z, q, h⟩ := ho_bd h
  refine hw_cv hS (hp_runV (As := [.int v2, .int v3]) (rest := []) X hP hS hl.1 LX3 (ho_is_s hs) kX6_134 ⟨m2_129, m2_130⟩ (c_X3_begin l G fu r1 v2 v3 _ _ q) rfl (Nat.le_of_ble_eq_true rfl) ⟨⟨Nat.le_of_ble_eq_true rfl, Nat.le_of_ble_eq_true rfl⟩, Nat.le_of_ble_eq_true rfl, Nat.le_of_ble_eq_true rfl⟩ dX6_judge_12) (fun H locs hP hS => ?_)
  refine lv_aload_n hx hb dX6_judge_15 rfl (lv_at hl 0 rfl) ?_
  obtain ⟨r4, q, h⟩ := ho_bd h
  refine hw_gr X hP LX6 fX6_47 rfl q dX6_judge_16 ?_
  refine lv_aload_n hx hb dX6_judge_19 rfl (lv_at hl 0 rfl) ?_
  obtain ⟨r5, q, h⟩ := ho_bd h
  refine hw_gr X hP LX6 fX6_20 rfl q dX6_judge_20 ?_
  refine lv_aload_n hx hb dX6_judge_23 rfl (lv_at hl 0 rfl) ?_
  obtain ⟨r6, q, h⟩ := ho_bd h
  refine hw_gr X hP LX6 fX6_28 rfl q dX6_judge_24 ?_
  obtain ⟨_, hs, h⟩ := ho_bd h
  obtain ⟨z, q, h⟩ := ho_bd h
  refine hw_cv hS (hp_runV (As := [.ref r5, .ref r6]) (rest := []) X hP hS hl.1 LX3 (ho_is_s hs) kX6_138 ⟨m2_143, m2_144⟩ (c_X3_walk l G fu r4 r5 r6 _ _ q) rfl (Nat.le_of_ble_eq_true rfl) ⟨⟨Nat.le_of_ble_eq_true rfl, Nat.le_of_ble_eq_true rfl⟩, Nat.le_of_ble_eq_true rfl, Nat.le_of_ble_eq_true rfl⟩ dX6_judge_27) (fun H locs hP hS => ?_)
  refine lv_iconst (v := 0) hx hb dX6_judge_30 (by decide) ?_
  refine lv_istore_n (lv' := [(1, .int 0), (0, .ref a0)]) hx hb dX6_judge_31 rfl hl (by decide) rfl (fun ls hl => ?_)
  exact L32 fu 0 z _ _ _ h hP hS (lv_sub hl [1, 0] rfl)
