def f_X7_isBrokenAt_B27 (fu : Nat) (a0 : Nat) (x1 : Int32) (x2 : Int32) (x3 : Int32) (x4 : Int32) (z : hp_S) : Option (Int32 × hp_S) :=
  if vp_nar .boolean 0 = 0 then some (0, z) else none
def f_X7_isBrokenAt_B88 (fu : Nat) (a0 : Nat) (x1 : Int32) (x2 : Int32) (x3 : Int32) (x4 : Int32) (s0 : Int32) (z : hp_S) : Option (Int32 × hp_S) :=
  if vp_nar .boolean s0 = s0 then some (s0, z) else none
def f_X7_isBrokenAt_B278 (fu : Nat) (a0 : Nat) (x1 : Int32) (x2 : Int32) (x3 : Int32) (x4 : Int32) (s0 : Int32) (z : hp_S) : Option (Int32 × hp_S) :=
  if vp_nar .boolean s0 = s0 then some (s0, z) else none
def f_X7_isBrokenAt_B116 (fu : Nat) (a0 : Nat) (x1 : Int32) (x2 : Int32) (x3 : Int32) (x4 : Int32) (s0 : Int32) (z : hp_S) : Option (Int32 × hp_S) :=
  if vp_nar .boolean s0 = s0 then some (s0, z) else none
def f_X7_isBrokenAt_B108 (fu : Nat) (a0 : Nat) (x1 : Int32) (x2 : Int32) (x3 : Int32) (x4 : Int32) (s0 : Int32) (s1 : Int32) (z : hp_S) : Option (Int32 × hp_S) :=
  if s1 ≤ s0 then (
    f_X7_isBrokenAt_B116 fu a0 x1 x2 x3 x4 0 z
  ) else (
    f_X7_isBrokenAt_B116 fu a0 x1 x2 x3 x4 1 z
  )
def f_X7_isBrokenAt_B227 (fu : Nat) (a0 : Nat) (x1 : Int32) (x2 : Int32) (x3 : Int32) (x4 : Int32) (s0 : Int32) (z : hp_S) : Option (Int32 × hp_S) :=
  if vp_nar .boolean s0 = s0 then some (s0, z) else none
def f_X7_isBrokenAt_B226 (fu : Nat) (a0 : Nat) (x1 : Int32) (x2 : Int32) (x3 : Int32) (x4 : Int32) (z : hp_S) : Option (Int32 × hp_S) :=
  f_X7_isBrokenAt_B227 fu a0 x1 x2 x3 x4 0 z
def f_X7_isBrokenAt_B191 (fu : Nat) (a0 : Nat) (x1 : Int32) (x2 : Int32) (x3 : Int32) (x4 : Int32) (w5 : Int32) (s0 : Int32) (z : hp_S) : Option (Int32 × hp_S) :=
  if s0 = 0 then (
    f_X7_isBrokenAt_B226 fu a0 x1 x2 x3 x4  z
  ) else (
    (ho_is 7 a0 z).bind fun _ =>
    (f_X7_heightOf fu a0 w5 z).bind fun ⟨v7, z⟩ =>
    (ho_gr 7 a0 5 z).bind fun r8 =>
    (ho_li 1 r8 x2 z).bind fun v9 =>
    (ho_gr 7 a0 6 z).bind fun r10 =>
    (ho_li 1 r10 x2 z).bind fun v11 =>
    (f_X7_isIn fu v7 v9 v11 z).bind fun ⟨v12, z⟩ =>
    if v12 = 0 then (
      f_X7_isBrokenAt_B227 fu a0 x1 x2 x3 x4 1 z
    ) else (
      f_X7_isBrokenAt_B226 fu a0 x1 x2 x3 x4  z
    )
  )
def f_X7_isBrokenAt_B186 (fu : Nat) (a0 : Nat) (x1 : Int32) (x2 : Int32) (x3 : Int32) (x4 : Int32) (w5 : Int32) (z : hp_S) : Option (Int32 × hp_S) :=
  f_X7_isBrokenAt_B191 fu a0 x1 x2 x3 x4 w5 1 z
def f_X7_isBrokenAt_B144 (fu : Nat) (a0 : Nat) (x1 : Int32) (x2 : Int32) (x3 : Int32) (x4 : Int32) (w5 : Int32) (s0 : Int32) (z : hp_S) : Option (Int32 × hp_S) :=
  if s0 = (-1) then (
    f_X7_isBrokenAt_B186 fu a0 x1 x2 x3 x4 w5 z
  ) else (
    (ho_gr 7 a0 3 z).bind fun r13 =>
    (ho_li 1 r13 s0 z).bind fun v14 =>
    (ho_gr 7 a0 3 z).bind fun r15 =>
    (ho_li 1 r15 w5 z).bind fun v16 =>
    if v14 = v16 then (
      (ho_gr 7 a0 4 z).bind fun r17 =>
      (ho_li 1 r17 s0 z).bind fun v18 =>
      (ho_gr 7 a0 4 z).bind fun r19 =>
      (ho_li 1 r19 w5 z).bind fun v20 =>
      if v18 = v20 then (
        f_X7_isBrokenAt_B191 fu a0 x1 x2 x3 x4 w5 0 z
      ) else (
        f_X7_isBrokenAt_B186 fu a0 x1 x2 x3 x4 w5 z
      )
    ) else (
      f_X7_isBrokenAt_B186 fu a0 x1 x2 x3 x4 w5 z
    )
  )
def f_X7_isBrokenAt_B261 (fu : Nat) (a0 : Nat) (x1 : Int32) (x2 : Int32) (x3 : Int32) (x4 : Int32) (s0 : Int32) (z : hp_S) : Option (Int32 × hp_S) :=
  if vp_nar .boolean s0 = s0 then some (s0, z) else none
def f_X7_isBrokenAt_B260 (fu : Nat) (a0 : Nat) (x1 : Int32) (x2 : Int32) (x3 : Int32) (x4 : Int32) (z : hp_S) : Option (Int32 × hp_S) :=
  f_X7_isBrokenAt_B261 fu a0 x1 x2 x3 x4 0 z
def f_X7_isBrokenAt_B29 (fu : Nat) (a0 : Nat) (x1 : Int32) (x2 : Int32) (x3 : Int32) (x4 : Int32) (z : hp_S) : Option (Int32 × hp_S) :=
  if x1 = 3 then (
    (ho_is 7 a0 z).bind fun _ =>
    (f_X7_betweenHeights fu a0 x2 x3 x4 z).bind fun ⟨v2, z⟩ =>
    if 0 ≤ v2 then (
      f_X7_isBrokenAt_B88 fu a0 x1 x2 x3 x4 0 z
    ) else (
      f_X7_isBrokenAt_B88 fu a0 x1 x2 x3 x4 1 z
    )
  ) else (
  if x1 = 4 then (
    (ho_is 7 a0 z).bind fun _ =>
    (f_X7_betweenHeights fu a0 x2 x3 x4 z).bind fun ⟨v3, z⟩ =>
    if v3 = 0 then (
      f_X7_isBrokenAt_B278 fu a0 x1 x2 x3 x4 1 z
    ) else (
      f_X7_isBrokenAt_B278 fu a0 x1 x2 x3 x4 0 z
    )
  ) else (
  if x1 = 5 then (
    (ho_is 7 a0 z).bind fun _ =>
    (f_X7_betweenHeights fu a0 x2 x3 x4 z).bind fun ⟨v4, z⟩ =>
    if x2 = 0 then (
      f_X7_isBrokenAt_B108 fu a0 x1 x2 x3 x4 19 v4 z
    ) else (
      f_X7_isBrokenAt_B108 fu a0 x1 x2 x3 x4 12 v4 z
    )
  ) else (
  if x1 = 6 then (
    (ho_is 7 a0 z).bind fun _ =>
    (f_X7_at fu a0 x2 x4 z).bind fun ⟨v5, z⟩ =>
    if x4 = 0 then (
      f_X7_isBrokenAt_B144 fu a0 x1 x2 x3 x4 v5 (-1) z
    ) else (
      (ho_is 7 a0 z).bind fun _ =>
      (f_X7_at fu a0 x2 (x4 - 1) z).bind fun ⟨v6, z⟩ =>
      f_X7_isBrokenAt_B144 fu a0 x1 x2 x3 x4 v5 v6 z
    )
  ) else (
  if x1 = 7 then (
    (ho_is 7 a0 z).bind fun _ =>
    (f_X7_betweenHeights fu a0 x2 x3 x4 z).bind fun ⟨v21, z⟩ =>
    if v21 = 0 then (
      f_X7_isBrokenAt_B278 fu a0 x1 x2 x3 x4 1 z
    ) else (
      f_X7_isBrokenAt_B278 fu a0 x1 x2 x3 x4 0 z
    )
  ) else (
  if x1 = 8 then (
    (ho_is 7 a0 z).bind fun _ =>
    (f_X7_betweenHeights fu a0 x2 x3 x4 z).bind fun ⟨v22, z⟩ =>
    if v22 = 0 then (
      f_X7_isBrokenAt_B278 fu a0 x1 x2 x3 x4 1 z
    ) else (
      f_X7_isBrokenAt_B278 fu a0 x1 x2 x3 x4 0 z
    )
  ) else (
  if x1 = 9 then (
    (ho_is 7 a0 z).bind fun _ =>
    (f_X7_at fu a0 x2 x4 z).bind fun ⟨v23, z⟩ =>
    (ho_is 7 a0 z).bind fun _ =>
    (f_X7_isLeading fu a0 v23 z).bind fun ⟨v24, z⟩ =>
    if v24 = 0 then (
      f_X7_isBrokenAt_B260 fu a0 x1 x2 x3 x4  z
    ) else (
      (ho_is 7 a0 z).bind fun _ =>
      (f_X7_at fu a0 x3 x4 z).bind fun ⟨v25, z⟩ =>
      (ho_is 7 a0 z).bind fun _ =>
      (f_X7_isLeading fu a0 v25 z).bind fun ⟨v26, z⟩ =>
      if v26 = 0 then (
        f_X7_isBrokenAt_B260 fu a0 x1 x2 x3 x4  z
      ) else (
        f_X7_isBrokenAt_B261 fu a0 x1 x2 x3 x4 1 z
      )
    )
  ) else (
    (ho_is 7 a0 z).bind fun _ =>
    (f_X7_betweenHeights fu a0 x2 x3 x4 z).bind fun ⟨v27, z⟩ =>
    if v27 = 0 then (
      f_X7_isBrokenAt_B278 fu a0 x1 x2 x3 x4 1 z
    ) else (
      f_X7_isBrokenAt_B278 fu a0 x1 x2 x3 x4 0 z
    )
  )))))))
def f_X7_isBrokenAt (fu : Nat) (a0 : Nat) (x1 : Int32) (x2 : Int32) (x3 : Int32) (x4 : Int32) (z : hp_S) : Option (Int32 × hp_S) :=
  (ho_is 7 a0 z).bind fun _ =>
  (f_X7_at fu a0 x2 x4 z).bind fun ⟨v1, z⟩ =>
  if v1 = (-1) then (
    f_X7_isBrokenAt_B27 fu a0 x1 x2 x3 x4  z
  ) else (
    if x3 = (-1) then (
      f_X7_isBrokenAt_B29 fu a0 x1 x2 x3 x4  z
    ) else (
      (ho_is 7 a0 z).bind fun _ =>
      (f_X7_at fu a0 x3 x4 z).bind fun ⟨v28, z⟩ =>
      if v28 = (-1) then (
        f_X7_isBrokenAt_B27 fu a0 x1 x2 x3 x4  z
      ) else (
        f_X7_isBrokenAt_B29 fu a0 x1 x2 x3 x4  z
      )
    )
  )
set_option maxHeartbeats 4000000 in
set_option maxRecDepth 100000 in
theorem c_X7_isBrokenAt (l : Launch) (G : hp_G) (fu : Nat) (a0 : Nat) (x1 : Int32) (x2 : Int32) (x3 : Int32) (x4 : Int32) (z : hp_S) (rq : Int32) (zq : hp_S) (h : f_X7_isBrokenAt fu a0 x1 x2 x3 x4 z = some (rq, zq)) : hp_M l G yX7_isBrokenAt cX7_isBrokenAt 8 (some .boolean) 3 64 0 0 [.ref a0, .int x1, .int x2, .int x3, .int x4] z (hp_Qi G rq zq) := by
  refine hp_M.of (by decide) (Nat.le_of_ble_eq_true rfl) ?_
  intro p e s m below meth c X hr hlocks hnm hP hS ls hl
  have X : hp_C G cX7_isBrokenAt RX7 8 p s m c := X
  have hl : lv_has ls 8 [(0, .ref a0), (1, .int x1), (2, .int x2), (3, .int x3), (4, .int x4)] := hl
  have hx := X.1
  have hb := X.2.1
  have B27 : ∀ (z : hp_S) (H : Heap) (locs : List Loc) (ls : Array Slot), f_X7_isBrokenAt_B27 fu a0 x1 x2 x3 x4 z = some (rq, zq) → hp_P G z H → va_S (hp_A G) s.heap H locs → lv_has ls 8 [(0, .ref a0), (1, .int x1), (2, .int x2), (3, .int x3), (4, .int x4)] → W p l e (hp_rm 3 64 0 0) s m [.ref a0, .int x1, .int x2, .int x3, .int x4].toArray below meth c H locs 0 0 (MQ below (hp_Qi G rq zq) [.ref a0, .int x1, .int x2, .int x3, .int x4].toArray s 0 0 (hp_A G)) (F0 m 27 ls []) := by
    intro z H locs ls h hP hS hl
    unfold f_X7_isBrokenAt_B27 at h
    refine lv_iconst (v := 0) hx hb dX7_isBrokenAt_27 (by decide) ?_
    exact hw_zret X hP hS hr hlocks h dX7_isBrokenAt_28
  have B88 : ∀ (s0 : Int32) (z : hp_S) (H : Heap) (locs : List Loc) (ls : Array Slot), f_X7_isBrokenAt_B88 fu a0 x1 x2 x3 x4 s0 z = some (rq, zq) → hp_P G z H → va_S (hp_A G) s.heap H locs → lv_has ls 8 [(0, .ref a0), (1, .int x1), (2, .int x2), (3, .int x3), (4, .int x4)] → W p l e (hp_rm 3 64 0 0) s m [.ref a0, .int x1, .int x2, .int x3, .int x4].toArray below meth c H locs 0 0 (MQ below (hp_Qi G rq zq) [.ref a0, .int x1, .int x2, .int x3, .int x4].toArray s 0 0 (hp_A G)) (F0 m 88 ls [.int s0]) := by
    intro s0 z H locs ls h hP hS hl
    unfold f_X7_isBrokenAt_B88 at h
    exact hw_zret X hP hS hr hlocks h dX7_isBrokenAt_88
  have B278 : ∀ (s0 : Int32) (z : hp_S) (H : Heap) (locs : List Loc) (ls : Array Slot), f_X7_isBrokenAt_B278 fu a0 x1 x2 x3 x4 s0 z = some (rq, zq) → hp_P G z H → va_S (hp_A G) s.heap H locs → lv_has ls 8 [(0, .ref a0), (1, .int x1), (2, .int x2), (3, .int x3), (4, .int x4)] → W p l e (hp_rm 3 64 0 0) s m [.ref a0, .int x1, .int x2, .int x3, .int x4].toArray below meth c H locs 0 0 (MQ below (hp_Qi G rq zq) [.ref a0, .int x1, .int x2, .int x3, .int x4].toArray s 0 0 (hp_A G)) (F0 m 278 ls [.int s0]) := by
    intro s0 z H locs ls h hP hS hl
    unfold f_X7_isBrokenAt_B278 at h
    exact hw_zret X hP hS hr hlocks h dX7_isBrokenAt_278
  have B116 : ∀ (s0 : Int32) (z : hp_S) (H : Heap) (locs : List Loc) (ls : Array Slot), f_X7_isBrokenAt_B116 fu a0 x1 x2 x3 x4 s0 z = some (rq, zq) → hp_P G z H → va_S (hp_A G) s.heap H locs → lv_has ls 8 [(0, .ref a0), (1, .int x1), (2, .int x2), (3, .int x3), (4, .int x4)] → W p l e (hp_rm 3 64 0 0) s m [.ref a0, .int x1, .int x2, .int x3, .int x4].toArray below meth c H locs 0 0 (MQ below (hp_Qi G rq zq) [.ref a0, .int x1, .int x2, .int x3, .int x4].toArray s 0 0 (hp_A G)) (F0 m 116 ls [.int s0]) := by
    intro s0 z H locs ls h hP hS hl
    unfold f_X7_isBrokenAt_B116 at h
    exact hw_zret X hP hS hr hlocks h dX7_isBrokenAt_116
  have B108 : ∀ (s0 : Int32) (s1 : Int32) (z : hp_S) (H : Heap) (locs : List Loc) (ls : Array Slot), f_X7_isBrokenAt_B108 fu a0 x1 x2 x3 x4 s0 s1 z = some (rq, zq) → hp_P G z H → va_S (hp_A G) s.heap H locs → lv_has ls 8 [(0, .ref a0), (1, .int x1), (2, .int x2), (3, .int x3), (4, .int x4)] → W p l e (hp_rm 3 64 0 0) s m [.ref a0, .int x1, .int x2, .int x3, .int x4].toArray below meth c H locs 0 0 (MQ below (hp_Qi G rq zq) [.ref a0, .int x1, .int x2, .int x3, .int x4].toArray s 0 0 (hp_A G)) (F0 m 108 ls [.int s0, .int s1]) := by
    intro s0 s1 z H locs ls h hP hS hl
    unfold f_X7_isBrokenAt_B108 at h
    refine lv_icmp_le (tgt := 115) hx hb dX7_isBrokenAt_108 (by decide) (fun hc => ?_) (fun hc => ?_)
    · replace h := ho_ip hc h
      refine lv_iconst (v := 0) hx hb dX7_isBrokenAt_115 (by decide) ?_
      exact B116 0 z _ _ _ h hP hS (lv_sub hl [0, 1, 2, 3, 4] rfl)
    · replace h := ho_in hc h
      refine lv_iconst (v := 1) hx hb dX7_isBrokenAt_111 (by decide) ?_
      refine lv_goto (tgt := 116) hx hb dX7_isBrokenAt_112 (by decide) ?_
      exact B116 1 z _ _ _ h hP hS (lv_sub hl [0, 1, 2, 3, 4] rfl)
  have B227 : ∀ (s0 : Int32) (z : hp_S) (H : Heap) (locs : List Loc) (ls : Array Slot), f_X7_isBrokenAt_B227 fu a0 x1 x2 x3 x4 s0 z = some (rq, zq) → hp_P G z H → va_S (hp_A G) s.heap H locs → lv_has ls 8 [(0, .ref a0), (1, .int x1), (2, .int x2), (3, .int x3), (4, .int x4)] → W p l e (hp_rm 3 64 0 0) s m [.ref a0, .int x1, .int x2, .int x3, .int x4].toArray below meth c H locs 0 0 (MQ below (hp_Qi G rq zq) [.ref a0, .int x1, .int x2, .int x3, .int x4].toArray s 0 0 (hp_A G)) (F0 m 227 ls [.int s0]) := by
    intro s0 z H locs ls h hP hS hl
    unfold f_X7_isBrokenAt_B227 at h
    exact hw_zret X hP hS hr hlocks h dX7_isBrokenAt_227
  have B226 : ∀ (z : hp_S) (H : Heap) (locs : List Loc) (ls : Array Slot), f_X7_isBrokenAt_B226 fu a0 x1 x2 x3 x4 z = some (rq, zq) → hp_P G z H → va_S (hp_A G) s.heap H locs → lv_has ls 8 [(0, .ref a0), (1, .int x1), (2, .int x2), (3, .int x3), (4, .int x4)] → W p l e (hp_rm 3 64 0 0) s m [.ref a0, .int x1, .int x2, .int x3, .int x4].toArray below meth c H locs 0 0 (MQ below (hp_Qi G rq zq) [.ref a0, .int x1, .int x2, .int x3, .int x4].toArray s 0 0 (hp_A G)) (F0 m 226 ls []) := by
    intro z H locs ls h hP hS hl
    unfold f_X7_isBrokenAt_B226 at h
    refine lv_iconst (v := 0) hx hb dX7_isBrokenAt_226 (by decide) ?_
    exact B227 0 z _ _ _ h hP hS (lv_sub hl [0, 1, 2, 3, 4] rfl)
  have B191 : ∀ (w5 : Int32) (s0 : Int32) (z : hp_S) (H : Heap) (locs : List Loc) (ls : Array Slot), f_X7_isBrokenAt_B191 fu a0 x1 x2 x3 x4 w5 s0 z = some (rq, zq) → hp_P G z H → va_S (hp_A G) s.heap H locs → lv_has ls 8 [(0, .ref a0), (1, .int x1), (2, .int x2), (3, .int x3), (4, .int x4), (5, .int w5)] → W p l e (hp_rm 3 64 0 0) s m [.ref a0, .int x1, .int x2, .int x3, .int x4].toArray below meth c H locs 0 0 (MQ below (hp_Qi G rq zq) [.ref a0, .int x1, .int x2, .int x3, .int x4].toArray s 0 0 (hp_A G)) (F0 m 191 ls [.int s0]) := by
    intro w5 s0 z H locs ls h hP hS hl
    unfold f_X7_isBrokenAt_B191 at h
    refine lv_istore (lv' := [(7, .int s0), (0, .ref a0), (1, .int x1), (2, .int x2), (3, .int x3), (4, .int x4), (5, .int w5)]) hx hb dX7_isBrokenAt_191 hl (by decide) rfl (fun ls hl => ?_)
    refine lv_iload hx hb dX7_isBrokenAt_193 (lv_at hl 0 rfl) ?_
    refine lv_if_eq (tgt := 226) hx hb dX7_isBrokenAt_195 (by decide) (fun hc => ?_) (fun hc => ?_)
    · replace h := ho_ip hc h
      exact B226 z _ _ _ h hP hS (lv_sub hl [1, 2, 3, 4, 5] rfl)
    · replace h := ho_in hc h
      refine lv_aload_n hx hb dX7_isBrokenAt_198 rfl (lv_at hl 1 rfl) ?_
      refine lv_iload hx hb dX7_isBrokenAt_199 (lv_at hl 6 rfl) ?_
      obtain ⟨_, hs, h⟩ := ho_bd h
      obtain ⟨⟨v7, z⟩, q, h⟩ := ho_bd h
      refine hw_ci hS (hp_runV (As := [.int w5]) (rest := []) X hP hS hl.1 LX7 (ho_is_s hs) kX7_97 ⟨m3_215, mp_23⟩ (c_X7_heightOf l G fu a0 w5 _ _ _ q) rfl (Nat.le_of_ble_eq_true rfl) ⟨⟨Nat.le_of_ble_eq_true rfl, Nat.le_of_ble_eq_true rfl⟩, Nat.le_of_ble_eq_true rfl, Nat.le_of_ble_eq_true rfl⟩ dX7_isBrokenAt_201) (fun H locs hP hS => ?_)
      refine lv_aload_n hx hb dX7_isBrokenAt_204 rfl (lv_at hl 1 rfl) ?_
      obtain ⟨r8, q, h⟩ := ho_bd h
      refine hw_gr X hP LX7 fX7_22 rfl q dX7_isBrokenAt_205 ?_
      refine lv_iload_n hx hb dX7_isBrokenAt_208 rfl (lv_at hl 3 rfl) ?_
      obtain ⟨v9, q, h⟩ := ho_bd h
      refine hw_li X hP q dX7_isBrokenAt_209 ?_
      refine lv_aload_n hx hb dX7_isBrokenAt_210 rfl (lv_at hl 1 rfl) ?_
      obtain ⟨r10, q, h⟩ := ho_bd h
      refine hw_gr X hP LX7 fX7_25 rfl q dX7_isBrokenAt_211 ?_
      refine lv_iload_n hx hb dX7_isBrokenAt_214 rfl (lv_at hl 3 rfl) ?_
      obtain ⟨v11, q, h⟩ := ho_bd h
      refine hw_li X hP q dX7_isBrokenAt_215 ?_
      obtain ⟨⟨v12, z⟩, q, h⟩ := ho_bd h
      refine hw_ci hS (hp_runS (As := [.int v7, .int v9, .int v11]) (rest := []) X hP hS hl.1 kX7_81 m3_183 (c_X7_isIn l G fu v7 v9 v11 _ _ _ q) rfl (Nat.le_of_ble_eq_true rfl) ⟨⟨Nat.le_of_ble_eq_true rfl, Nat.le_of_ble_eq_true rfl⟩, Nat.le_of_ble_eq_true rfl, Nat.le_of_ble_eq_true rfl⟩ dX7_isBrokenAt_216) (fun H locs hP hS => ?_)
      refine lv_if_ne (tgt := 226) hx hb dX7_isBrokenAt_219 (by decide) (fun hc => ?_) (fun hc => ?_)
      · replace h := ho_in hc h
        exact B226 z _ _ _ h hP hS (lv_sub hl [1, 2, 3, 4, 5] rfl)
      · replace h := ho_ip hc h
        refine lv_iconst (v := 1) hx hb dX7_isBrokenAt_222 (by decide) ?_
        refine lv_goto (tgt := 227) hx hb dX7_isBrokenAt_223 (by decide) ?_
        exact B227 1 z _ _ _ h hP hS (lv_sub hl [1, 2, 3, 4, 5] rfl)
  have B186 : ∀ (w5 : Int32) (z : hp_S) (H : Heap) (locs : List Loc) (ls : Array Slot), f_X7_isBrokenAt_B186 fu a0 x1 x2 x3 x4 w5 z = some (rq, zq) → hp_P G z H → va_S (hp_A G) s.heap H locs → lv_has ls 8 [(0, .ref a0), (1, .int x1), (2, .int x2), (3, .int x3), (4, .int x4), (5, .int w5)] → W p l e (hp_rm 3 64 0 0) s m [.ref a0, .int x1, .int x2, .int x3, .int x4].toArray below meth c H locs 0 0 (MQ below (hp_Qi G rq zq) [.ref a0, .int x1, .int x2, .int x3, .int x4].toArray s 0 0 (hp_A G)) (F0 m 186 ls []) := by
    intro w5 z H locs ls h hP hS hl
    unfold f_X7_isBrokenAt_B186 at h
    refine lv_iconst (v := 1) hx hb dX7_isBrokenAt_186 (by decide) ?_
    refine lv_goto (tgt := 191) hx hb dX7_isBrokenAt_187 (by decide) ?_
    exact B191 w5 1 z _ _ _ h hP hS (lv_sub hl [0, 1, 2, 3, 4, 5] rfl)
  have B144 : ∀ (w5 : Int32) (s0 : Int32) (z : hp_S) (H : Heap) (locs : List Loc) (ls : Array Slot), f_X7_isBrokenAt_B144 fu a0 x1 x2 x3 x4 w5 s0 z = some (rq, zq) → hp_P G z H → va_S (hp_A G) s.heap H locs → lv_has ls 8 [(0, .ref a0), (1, .int x1), (2, .int x2), (3, .int x3), (4, .int x4), (5, .int w5)] → W p l e (hp_rm 3 64 0 0) s m [.ref a0, .int x1, .int x2, .int x3, .int x4].toArray below meth c H locs 0 0 (MQ below (hp_Qi G rq zq) [.ref a0, .int x1, .int x2, .int x3, .int x4].toArray s 0 0 (hp_A G)) (F0 m 144 ls [.int s0]) := by
    intro w5 s0 z H locs ls h hP hS hl
    unfold f_X7_isBrokenAt_B144 at h
    refine lv_istore (lv' := [(6, .int s0), (0, .ref a0), (1, .int x1), (2, .int x2), (3, .int x3), (4, .int x4), (5, .int w5)]) hx hb dX7_isBrokenAt_144 hl (by decide) rfl (fun ls hl => ?_)
    refine lv_iload hx hb dX7_isBrokenAt_146 (lv_at hl 0 rfl) ?_
    refine lv_iconst (v := (-1)) hx hb dX7_isBrokenAt_148 (by decide) ?_
    refine lv_icmp_eq (tgt := 186) hx hb dX7_isBrokenAt_149 (by decide) (fun hc => ?_) (fun hc => ?_)
    · replace h := ho_ip hc h
      exact B186 w5 z _ _ _ h hP hS (lv_sub hl [1, 2, 3, 4, 5, 6] rfl)
    · replace h := ho_in hc h
      refine lv_aload_n hx hb dX7_isBrokenAt_152 rfl (lv_at hl 1 rfl) ?_
      obtain ⟨r13, q, h⟩ := ho_bd h
      refine hw_gr X hP LX7 fX7_16 rfl q dX7_isBrokenAt_153 ?_
      refine lv_iload hx hb dX7_isBrokenAt_156 (lv_at hl 0 rfl) ?_
      obtain ⟨v14, q, h⟩ := ho_bd h
      refine hw_li X hP q dX7_isBrokenAt_158 ?_
      refine lv_aload_n hx hb dX7_isBrokenAt_159 rfl (lv_at hl 1 rfl) ?_
      obtain ⟨r15, q, h⟩ := ho_bd h
      refine hw_gr X hP LX7 fX7_16 rfl q dX7_isBrokenAt_160 ?_
      refine lv_iload hx hb dX7_isBrokenAt_163 (lv_at hl 6 rfl) ?_
      obtain ⟨v16, q, h⟩ := ho_bd h
      refine hw_li X hP q dX7_isBrokenAt_165 ?_
      refine lv_icmp_ne (tgt := 186) hx hb dX7_isBrokenAt_166 (by decide) (fun hc => ?_) (fun hc => ?_)
      · replace h := ho_in hc h
        exact B186 w5 z _ _ _ h hP hS (lv_sub hl [1, 2, 3, 4, 5, 6] rfl)
      · replace h := ho_ip hc h
        refine lv_aload_n hx hb dX7_isBrokenAt_169 rfl (lv_at hl 1 rfl) ?_
        obtain ⟨r17, q, h⟩ := ho_bd h
        refine hw_gr X hP LX7 fX7_19 rfl q dX7_isBrokenAt_170 ?_
        refine lv_iload hx hb dX7_isBrokenAt_173 (lv_at hl 0 rfl) ?_
        obtain ⟨v18, q, h⟩ := ho_bd h
        refine hw_li X hP q dX7_isBrokenAt_175 ?_
        refine lv_aload_n hx hb dX7_isBrokenAt_176 rfl (lv_at hl 1 rfl) ?_
        obtain ⟨r19, q, h⟩ := ho_bd h
        refine hw_gr X hP LX7 fX7_19 rfl q dX7_isBrokenAt_177 ?_
        refine lv_iload hx hb dX7_isBrokenAt_180 (lv_at hl 6 rfl) ?_
        obtain ⟨v20, q, h⟩ := ho_bd h
        refine hw_li X hP q dX7_isBrokenAt_182 ?_
        refine lv_icmp_eq (tgt := 190) hx hb dX7_isBrokenAt_183 (by decide) (fun hc => ?_) (fun hc => ?_)
        · replace h := ho_ip hc h
          refine lv_iconst (v := 0) hx hb dX7_isBrokenAt_190 (by decide) ?_
          exact B191 w5 0 z _ _ _ h hP hS (lv_sub hl [1, 2, 3, 4, 5, 6] rfl)
        · replace h := ho_in hc h
          exact B186 w5 z _ _ _ h hP hS (lv_sub hl [1, 2, 3, 4, 5, 6] rfl)
  have B261 : ∀ (s0 : Int32) (z : hp_S) (H : Heap) (locs : List Loc) (ls : Array Slot), f_X7_isBrokenAt_B261 fu a0 x1 x2 x3 x4 s0 z = some (rq, zq) → hp_P G z H → va_S (hp_A G) s.heap H locs → lv_has ls 8 [(0, .ref a0), (1, .int x1), (2, .int x2), (3, .int x3), (4, .int x4)] → W p l e (hp_rm 3 64 0 0) s m [.ref a0, .int x1, .int x2, .int x3, .int x4].toArray below meth c H locs 0 0 (MQ below (hp_Qi G rq zq) [.ref a0, .int x1, .int x2, .int x3, .int x4].toArray s 0 0 (hp_A G)) (F0 m 261 ls [.int s0]) := by
    intro s0 z H locs ls h hP hS hl
    unfold f_X7_isBrokenAt_B261 at h
    exact hw_zret X hP hS hr hlocks h dX7_isBrokenAt_261
  have B260 : ∀ (z : hp_S) (H : Heap) (locs : List Loc) (ls : Array Slot), f_X7_isBrokenAt_B260 fu a0 x1 x2 x3 x4 z = some (rq, zq) → hp_P G z H → va_S (hp_A G) s.heap H locs → lv_has ls 8 [(0, .ref a0), (1, .int x1), (2, .int x2), (3, .int x3), (4, .int x4)] → W p l e (hp_rm 3 64 0 0) s m [.ref a0, .int x1, .int x2, .int x3, .int x4].toArray below meth c H locs 0 0 (MQ below (hp_Qi G rq zq) [.ref a0, .int x1, .int x2, .int x3, .int x4].toArray s 0 0 (hp_A G)) (F0 m 260 ls []) := by
    intro z H locs ls h hP hS hl
    unfold f_X7_isBrokenAt_B260 at h
    refine lv_iconst (v := 0) hx hb dX7_isBrokenAt_260 (by decide) ?_
    exact B261 0 z _ _ _ h hP hS (lv_sub hl [0, 1, 2, 3, 4] rfl)
  have B29 : ∀ (z : hp_S) (H : Heap) (locs : List Loc) (ls : Array Slot), f_X7_isBrokenAt_B29 fu a0 x1 x2 x3 x4 z = some (rq, zq) → hp_P G z H → va_S (hp_A G) s.heap H locs → lv_has ls 8 [(0, .ref a0), (1, .int x1), (2, .int x2), (3, .int x3), (4, .int x4)] → W p l e (hp_rm 3 64 0 0) s m [.ref a0, .int x1, .int x2, .int x3, .int x4].toArray below meth c H locs 0 0 (MQ below (hp_Qi G rq zq) [.ref a0, .int x1, .int x2, .int x3, .int x4].toArray s 0 0 (hp_A G)) (F0 m 29 ls []) := by
    intro z H locs ls h hP hS hl
    unfold f_X7_isBrokenAt_B29 at h
    refine lv_iload_n hx hb dX7_isBrokenAt_29 rfl (lv_at hl 1 rfl) ?_
    by_cases hc3 : x1 = 3
    · replace h := ho_ip hc3 h
      refine lv_tableIn (tgt := 72) hx hb dX7_isBrokenAt_30 (by rw [hc3]; decide) (by rw [hc3]; decide) (by rw [hc3]; rfl) (by decide) ?_
      refine lv_aload_n hx hb dX7_isBrokenAt_72 rfl (lv_at hl 0 rfl) ?_
      refine lv_iload_n hx hb dX7_isBrokenAt_73 rfl (lv_at hl 2 rfl) ?_
      refine lv_iload_n hx hb dX7_isBrokenAt_74 rfl (lv_at hl 3 rfl) ?_
      refine lv_iload hx hb dX7_isBrokenAt_75 (lv_at hl 4 rfl) ?_
      obtain ⟨_, hs, h⟩ := ho_bd h
      obtain ⟨⟨v2, z⟩, q, h⟩ := ho_bd h
      refine hw_ci hS (hp_runV (As := [.int x2, .int x3, .int x4]) (rest := []) X hP hS hl.1 LX7 (ho_is_s hs) kX7_118 ⟨m4_25, mp_30⟩ (c_X7_betweenHeights l G fu a0 x2 x3 x4 _ _ _ q) rfl (Nat.le_of_ble_eq_true rfl) ⟨⟨Nat.le_of_ble_eq_true rfl, Nat.le_of_ble_eq_true rfl⟩, Nat.le_of_ble_eq_true rfl, Nat.le_of_ble_eq_true rfl⟩ dX7_isBrokenAt_77) (fun H locs hP hS => ?_)
      refine lv_if_ge (tgt := 87) hx hb dX7_isBrokenAt_80 (by decide) (fun hc => ?_) (fun hc => ?_)
      · replace h := ho_ip hc h
        refine lv_iconst (v := 0) hx hb dX7_isBrokenAt_87 (by decide) ?_
        exact B88 0 z _ _ _ h hP hS (lv_sub hl [0, 1, 2, 3, 4] rfl)
      · replace h := ho_in hc h
        refine lv_iconst (v := 1) hx hb dX7_isBrokenAt_83 (by decide) ?_
        refine lv_goto (tgt := 88) hx hb dX7_isBrokenAt_84 (by decide) ?_
        exact B88 1 z _ _ _ h hP hS (lv_sub hl [0, 1, 2, 3, 4] rfl)
    replace h := ho_in hc3 h
    by_cases hc4 : x1 = 4
    · replace h := ho_ip hc4 h
      refine lv_tableIn (tgt := 262) hx hb dX7_isBrokenAt_30 (by rw [hc4]; decide) (by rw [hc4]; decide) (by rw [hc4]; rfl) (by decide) ?_
      refine lv_aload_n hx hb dX7_isBrokenAt_262 rfl (lv_at hl 0 rfl) ?_
      refine lv_iload_n hx hb dX7_isBrokenAt_263 rfl (lv_at hl 2 rfl) ?_
      refine lv_iload_n hx hb dX7_isBrokenAt_264 rfl (lv_at hl 3 rfl) ?_
      refine lv_iload hx hb dX7_isBrokenAt_265 (lv_at hl 4 rfl) ?_
      obtain ⟨_, hs, h⟩ := ho_bd h
      obtain ⟨⟨v3, z⟩, q, h⟩ := ho_bd h
      refine hw_ci hS (hp_runV (As := [.int x2, .int x3, .int x4]) (rest := []) X hP hS hl.1 LX7 (ho_is_s hs) kX7_118 ⟨m4_25, mp_30⟩ (c_X7_betweenHeights l G fu a0 x2 x3 x4 _ _ _ q) rfl (Nat.le_of_ble_eq_true rfl) ⟨⟨Nat.le_of_ble_eq_true rfl, Nat.le_of_ble_eq_true rfl⟩, Nat.le_of_ble_eq_true rfl, Nat.le_of_ble_eq_true rfl⟩ dX7_isBrokenAt_267) (fun H locs hP hS => ?_)
      refine lv_if_ne (tgt := 277) hx hb dX7_isBrokenAt_270 (by decide) (fun hc => ?_) (fun hc => ?_)
      · replace h := ho_in hc h
        refine lv_iconst (v := 0) hx hb dX7_isBrokenAt_277 (by decide) ?_
        exact B278 0 z _ _ _ h hP hS (lv_sub hl [0, 1, 2, 3, 4] rfl)
      · replace h := ho_ip hc h
        refine lv_iconst (v := 1) hx hb dX7_isBrokenAt_273 (by decide) ?_
        refine lv_goto (tgt := 278) hx hb dX7_isBrokenAt_274 (by decide) ?_
        exact B278 1 z _ _ _ h hP hS (lv_sub hl [0, 1, 2, 3, 4] rfl)
    replace h := ho_in hc4 h
    by_cases hc5 : x1 = 5
    · replace h := ho_ip hc5 h
      refine lv_tableIn (tgt := 89) hx hb dX7_isBrokenAt_30 (by rw [hc5]; decide) (by rw [hc5]; decide) (by rw [hc5]; rfl) (by decide) ?_
      refine lv_aload_n hx hb dX7_isBrokenAt_89 rfl (lv_at hl 0 rfl) ?_
      refine lv_iload_n hx hb dX7_isBrokenAt_90 rfl (lv_at hl 2 rfl) ?_
      refine lv_iload_n hx hb dX7_isBrokenAt_91 rfl (lv_at hl 3 rfl) ?_
      refine lv_iload hx hb dX7_isBrokenAt_92 (lv_at hl 4 rfl) ?_
      obtain ⟨_, hs, h⟩ := ho_bd h
      obtain ⟨⟨v4, z⟩, q, h⟩ := ho_bd h
      refine hw_ci hS (hp_runV (As := [.int x2, .int x3, .int x4]) (rest := []) X hP hS hl.1 LX7 (ho_is_s hs) kX7_118 ⟨m4_25, mp_30⟩ (c_X7_betweenHeights l G fu a0 x2 x3 x4 _ _ _ q) rfl (Nat.le_of_ble_eq_true rfl) ⟨⟨Nat.le_of_ble_eq_true rfl, Nat.le_of_ble_eq_true rfl⟩, Nat.le_of_ble_eq_true rfl, Nat.le_of_ble_eq_true rfl⟩ dX7_isBrokenAt_94) (fun H locs hP hS => ?_)
      refine lv_iload_n hx hb dX7_isBrokenAt_97 rfl (lv_at hl 2 rfl) ?_
      refine lv_if_ne (tgt := 106) hx hb dX7_isBrokenAt_98 (by decide) (fun hc => ?_) (fun hc => ?_)
      · replace h := ho_in hc h
        refine lv_bipush (v := 12) hx hb dX7_isBrokenAt_106 (by decide) ?_
        exact B108 12 v4 z _ _ _ h hP hS (lv_sub hl [0, 1, 2, 3, 4] rfl)
      · replace h := ho_ip hc h
        refine lv_bipush (v := 19) hx hb dX7_isBrokenAt_101 (by decide) ?_
        refine lv_goto (tgt := 108) hx hb dX7_isBrokenAt_103 (by decide) ?_
        exact B108 19 v4 z _ _ _ h hP hS (lv_sub hl [0, 1, 2, 3, 4] rfl)
    replace h := ho_in hc5 h
    by_cases hc6 : x1 = 6
    · replace h := ho_ip hc6 h
      refine lv_tableIn (tgt := 117) hx hb dX7_isBrokenAt_30 (by rw [hc6]; decide) (by rw [hc6]; decide) (by rw [hc6]; rfl) (by decide) ?_
      refine lv_aload_n hx hb dX7_isBrokenAt_117 rfl (lv_at hl 0 rfl) ?_
      refine lv_iload_n hx hb dX7_isBrokenAt_118 rfl (lv_at hl 2 rfl) ?_
      refine lv_iload hx hb dX7_isBrokenAt_119 (lv_at hl 4 rfl) ?_
      obtain ⟨_, hs, h⟩ := ho_bd h
      obtain ⟨⟨v5, z⟩, q, h⟩ := ho_bd h
      refine hw_ci hS (hp_runV (As := [.int x2, .int x4]) (rest := []) X hP hS hl.1 LX7 (ho_is_s hs) kX7_110 ⟨m4_21, mp_29⟩ (c_X7_at l G fu a0 x2 x4 _ _ _ q) rfl (Nat.le_of_ble_eq_true rfl) ⟨⟨Nat.le_of_ble_eq_true rfl, Nat.le_of_ble_eq_true rfl⟩, Nat.le_of_ble_eq_true rfl, Nat.le_of_ble_eq_true rfl⟩ dX7_isBrokenAt_121) (fun H locs hP hS => ?_)
      refine lv_istore (lv' := [(5, .int v5), (0, .ref a0), (1, .int x1), (2, .int x2), (3, .int x3), (4, .int x4)]) hx hb dX7_isBrokenAt_124 hl (by decide) rfl (fun ls hl => ?_)
      refine lv_iload hx hb dX7_isBrokenAt_126 (lv_at hl 5 rfl) ?_
      refine lv_if_ne (tgt := 135) hx hb dX7_isBrokenAt_128 (by decide) (fun hc => ?_) (fun hc => ?_)
      · replace h := ho_in hc h
        refine lv_aload_n hx hb dX7_isBrokenAt_135 rfl (lv_at hl 1 rfl) ?_
        refine lv_iload_n hx hb dX7_isBrokenAt_136 rfl (lv_at hl 3 rfl) ?_
        refine lv_iload hx hb dX7_isBrokenAt_137 (lv_at hl 5 rfl) ?_
        refine lv_iconst (v := 1) hx hb dX7_isBrokenAt_139 (by decide) ?_
        refine lv_isub hx hb dX7_isBrokenAt_140 ?_
        obtain ⟨_, hs, h⟩ := ho_bd h
        obtain ⟨⟨v6, z⟩, q, h⟩ := ho_bd h
        refine hw_ci hS (hp_runV (As := [.int x2, .int (x4 - 1)]) (rest := []) X hP hS hl.1 LX7 (ho_is_s hs) kX7_110 ⟨m4_21, mp_29⟩ (c_X7_at l G fu a0 x2 (x4 - 1) _ _ _ q) rfl (Nat.le_of_ble_eq_true rfl) ⟨⟨Nat.le_of_ble_eq_true rfl, Nat.le_of_ble_eq_true rfl⟩, Nat.le_of_ble_eq_true rfl, Nat.le_of_ble_eq_true rfl⟩ dX7_isBrokenAt_141) (fun H locs hP hS => ?_)
        exact B144 v5 v6 z _ _ _ h hP hS (lv_sub hl [1, 2, 3, 4, 5, 0] rfl)
      · replace h := ho_ip hc h
        refine lv_iconst (v := (-1)) hx hb dX7_isBrokenAt_131 (by decide) ?_
        refine lv_goto (tgt := 144) hx hb dX7_isBrokenAt_132 (by decide) ?_
        exact B144 v5 (-1) z _ _ _ h hP hS (lv_sub hl [1, 2, 3, 4, 5, 0] rfl)
    replace h := ho_in hc6 h
    by_cases hc7 : x1 = 7
    · replace h := ho_ip hc7 h
      refine lv_tableIn (tgt := 262) hx hb dX7_isBrokenAt_30 (by rw [hc7]; decide) (by rw [hc7]; decide) (by rw [hc7]; rfl) (by decide) ?_
      refine lv_aload_n hx hb dX7_isBrokenAt_262 rfl (lv_at hl 0 rfl) ?_
      refine lv_iload_n hx hb dX7_isBrokenAt_263 rfl (lv_at hl 2 rfl) ?_
      refine lv_iload_n hx hb dX7_isBrokenAt_264 rfl (lv_at hl 3 rfl) ?_
      refine lv_iload hx hb dX7_isBrokenAt_265 (lv_at hl 4 rfl) ?_
      obtain ⟨_, hs, h⟩ := ho_bd h
      obtain ⟨⟨v21, z⟩, q, h⟩ := ho_bd h
      refine hw_ci hS (hp_runV (As := [.int x2, .int x3, .int x4]) (rest := []) X hP hS hl.1 LX7 (ho_is_s hs) kX7_118 ⟨m4_25, mp_30⟩ (c_X7_betweenHeights l G fu a0 x2 x3 x4 _ _ _ q) rfl (Nat.le_of_ble_eq_true rfl) ⟨⟨Nat.le_of_ble_eq_true rfl, Nat.le_of_ble_eq_true rfl⟩, Nat.le_of_ble_eq_true rfl, Nat.le_of_ble_eq_true rfl⟩ dX7_isBrokenAt_267) (fun H locs hP hS => ?_)
      refine lv_if_ne (tgt := 277) hx hb dX7_isBrokenAt_270 (by decide) (fun hc => ?_) (fun hc => ?_)
      · replace h := ho_in hc h
        refine lv_iconst (v := 0) hx hb dX7_isBrokenAt_277 (by decide) ?_
        exact B278 0 z _ _ _ h hP hS (lv_sub hl [0, 1, 2, 3, 4] rfl)
      · replace h := ho_ip hc h
        refine lv_iconst (v := 1) hx hb dX7_isBrokenAt_273 (by decide) ?_
        refine lv_goto (tgt := 278) hx hb dX7_isBrokenAt_274 (by decide) ?_
        exact B278 1 z _ _ _ h hP hS (lv_sub hl [0, 1, 2, 3, 4] rfl)
    replace h := ho_in hc7 h
    by_cases hc8 : x1 = 8
    · replace h := ho_ip hc8 h
      refine lv_tableIn (tgt := 262) hx hb dX7_isBrokenAt_30 (by rw [hc8]; decide) (by rw [hc8]; decide) (by rw [hc8]; rfl) (by decide) ?_
      refine lv_aload_n hx hb dX7_isBrokenAt_262 rfl (lv_at hl 0 rfl) ?_
      refine lv_iload_n hx hb dX7_isBrokenAt_263 rfl (lv_at hl 2 rfl) ?_
      refine lv_iload_n hx hb dX7_isBrokenAt_264 rfl (lv_at hl 3 rfl) ?_
      refine lv_iload hx hb dX7_isBrokenAt_265 (lv_at hl 4 rfl) ?_
      obtain ⟨_, hs, h⟩ := ho_bd h
      obtain ⟨⟨v22, z⟩, q, h⟩ := ho_bd h
      refine hw_ci hS (hp_runV (As := [.int x2, .int x3, .int x4]) (rest := []) X hP hS hl.1 LX7 (ho_is_s hs) kX7_118 ⟨m4_25, mp_30⟩ (c_X7_betweenHeights l G fu a0 x2 x3 x4 _ _ _ q) rfl (Nat.le_of_ble_eq_true rfl) ⟨⟨Nat.le_of_ble_eq_true rfl, Nat.le_of_ble_eq_true rfl⟩, Nat.le_of_ble_eq_true rfl, Nat.le_of_ble_eq_true rfl⟩ dX7_isBrokenAt_267) (fun H locs hP hS => ?_)
      refine lv_if_ne (tgt := 277) hx hb dX7_isBrokenAt_270 (by decide) (fun hc => ?_) (fun hc => ?_)
      · replace h := ho_in hc h
        refine lv_iconst (v := 0) hx hb dX7_isBrokenAt_277 (by decide) ?_
        exact B278 0 z _ _ _ h hP hS (lv_sub hl [0, 1, 2, 3, 4] rfl)
      · replace h := ho_ip hc h
        refine lv_iconst (v := 1) hx hb dX7_isBrokenAt_273 (by decide) ?_
        refine lv_goto (tgt := 278) hx hb dX7_isBrokenAt_274 (by decide) ?_
        exact B278 1 z _ _ _ h hP hS (lv_sub hl [0, 1, 2, 3, 4] rfl)
    replace h := ho_in hc8 h
    by_cases hc9 : x1 = 9
    · replace h := ho_ip hc9 h
      refine lv_tableIn (tgt := 228) hx hb dX7_isBrokenAt_30 (by rw [hc9]; decide) (by rw [hc9]; decide) (by rw [hc9]; rfl) (by decide) ?_
      refine lv_aload_n hx hb dX7_isBrokenAt_228 rfl (lv_at hl 0 rfl) ?_
      refine lv_aload_n hx hb dX7_isBrokenAt_229 rfl (lv_at hl 0 rfl) ?_
      refine lv_iload_n hx hb dX7_isBrokenAt_230 rfl (lv_at hl 2 rfl) ?_
      refine lv_iload hx hb dX7_isBrokenAt_231 (lv_at hl 4 rfl) ?_
      obtain ⟨_, hs, h⟩ := ho_bd h
      obtain ⟨⟨v23, z⟩, q, h⟩ := ho_bd h
      refine hw_ci hS (hp_runV (As := [.int x2, .int x4]) (rest := [.ref a0]) X hP hS hl.1 LX7 (ho_is_s hs) kX7_110 ⟨m4_21, mp_29⟩ (c_X7_at l G fu a0 x2 x4 _ _ _ q) rfl (Nat.le_of_ble_eq_true rfl) ⟨⟨Nat.le_of_ble_eq_true rfl, Nat.le_of_ble_eq_true rfl⟩, Nat.le_of_ble_eq_true rfl, Nat.le_of_ble_eq_true rfl⟩ dX7_isBrokenAt_233) (fun H locs hP hS => ?_)
      obtain ⟨_, hs, h⟩ := ho_bd h
      obtain ⟨⟨v24, z⟩, q, h⟩ := ho_bd h
      refine hw_ci hS (hp_runV (As := [.int v23]) (rest := []) X hP hS hl.1 LX7 (ho_is_s hs) kX7_143 ⟨m4_29, mp_31⟩ (c_X7_isLeading l G fu a0 v23 _ _ _ q) rfl (Nat.le_of_ble_eq_true rfl) ⟨⟨Nat.le_of_ble_eq_true rfl, Nat.le_of_ble_eq_true rfl⟩, Nat.le_of_ble_eq_true rfl, Nat.le_of_ble_eq_true rfl⟩ dX7_isBrokenAt_236) (fun H locs hP hS => ?_)
      refine lv_if_eq (tgt := 260) hx hb dX7_isBrokenAt_239 (by decide) (fun hc => ?_) (fun hc => ?_)
      · replace h := ho_ip hc h
        exact B260 z _ _ _ h hP hS (lv_sub hl [0, 1, 2, 3, 4] rfl)
      · replace h := ho_in hc h
        refine lv_aload_n hx hb dX7_isBrokenAt_242 rfl (lv_at hl 0 rfl) ?_
        refine lv_aload_n hx hb dX7_isBrokenAt_243 rfl (lv_at hl 0 rfl) ?_
        refine lv_iload_n hx hb dX7_isBrokenAt_244 rfl (lv_at hl 3 rfl) ?_
        refine lv_iload hx hb dX7_isBrokenAt_245 (lv_at hl 4 rfl) ?_
        obtain ⟨_, hs, h⟩ := ho_bd h
        obtain ⟨⟨v25, z⟩, q, h⟩ := ho_bd h
        refine hw_ci hS (hp_runV (As := [.int x3, .int x4]) (rest := [.ref a0]) X hP hS hl.1 LX7 (ho_is_s hs) kX7_110 ⟨m4_21, mp_29⟩ (c_X7_at l G fu a0 x3 x4 _ _ _ q) rfl (Nat.le_of_ble_eq_true rfl) ⟨⟨Nat.le_of_ble_eq_true rfl, Nat.le_of_ble_eq_true rfl⟩, Nat.le_of_ble_eq_true rfl, Nat.le_of_ble_eq_true rfl⟩ dX7_isBrokenAt_247) (fun H locs hP hS => ?_)
        obtain ⟨_, hs, h⟩ := ho_bd h
        obtain ⟨⟨v26, z⟩, q, h⟩ := ho_bd h
        refine hw_ci hS (hp_runV (As := [.int v25]) (rest := []) X hP hS hl.1 LX7 (ho_is_s hs) kX7_143 ⟨m4_29, mp_31⟩ (c_X7_isLeading l G fu a0 v25 _ _ _ q) rfl (Nat.le_of_ble_eq_true rfl) ⟨⟨Nat.le_of_ble_eq_true rfl, Nat.le_of_ble_eq_true rfl⟩, Nat.le_of_ble_eq_true rfl, Nat.le_of_ble_eq_true rfl⟩ dX7_isBrokenAt_250) (fun H locs hP hS => ?_)
        refine lv_if_eq (tgt := 260) hx hb dX7_isBrokenAt_253 (by decide) (fun hc => ?_) (fun hc => ?_)
        · replace h := ho_ip hc h
          exact B260 z _ _ _ h hP hS (lv_sub hl [0, 1, 2, 3, 4] rfl)
        · replace h := ho_in hc h
          refine lv_iconst (v := 1) hx hb dX7_isBrokenAt_256 (by decide) ?_
          refine lv_goto (tgt := 261) hx hb dX7_isBrokenAt_257 (by decide) ?_
          exact B261 1 z _ _ _ h hP hS (lv_sub hl [0, 1, 2, 3, 4] rfl)
    replace h := ho_in hc9 h
    refine lv_tableOut (tgt := 262) hx hb dX7_isBrokenAt_30 (by have u0 := ho_ne (n := 3) 3 rfl hc3; have u1 := ho_ne (n := 4) 4 rfl hc4; have u2 := ho_ne (n := 5) 5 rfl hc5; have u3 := ho_ne (n := 6) 6 rfl hc6; have u4 := ho_ne (n := 7) 7 rfl hc7; have u5 := ho_ne (n := 8) 8 rfl hc8; have u6 := ho_ne (n := 9) 9 rfl hc9; omega) (by decide) ?_
    refine lv_aload_n hx hb dX7_isBrokenAt_262 rfl (lv_at hl 0 rfl) ?_
    refine lv_iload_n hx hb dX7_isBrokenAt_263 rfl (lv_at hl 2 rfl) ?_
    refine lv_iload_n hx hb dX7_isBrokenAt_264 rfl (lv_at hl 3 rfl) ?_
    refine lv_iload hx hb dX7_isBrokenAt_265 (lv_at hl 4 rfl) ?_
    obtain ⟨_, hs, h⟩ := ho_bd h
    obtain ⟨⟨v27, z⟩, q, h⟩ := ho_bd h
    refine hw_ci hS (hp_runV (As := [.int x2, .int x3, .int x4]) (rest := []) X hP hS hl.1 LX7 (ho_is_s hs) kX7_118 ⟨m4_25, mp_30⟩ (c_X7_betweenHeights l G fu a0 x2 x3 x4 _ _ _ q) rfl (Nat.le_of_ble_eq_true rfl) ⟨⟨Nat.le_of_ble_eq_true rfl, Nat.le_of_ble_eq_true rfl⟩, Nat.le_of_ble_eq_true rfl, Nat.le_of_ble_eq_true rfl⟩ dX7_isBrokenAt_267) (fun H locs hP hS => ?_)
    refine lv_if_ne (tgt := 277) hx hb dX7_isBrokenAt_270 (by decide) (fun hc => ?_) (fun hc => ?_)
    · replace h := ho_in hc h
      refine lv_iconst (v := 0) hx hb dX7_isBrokenAt_277 (by decide) ?_
      exact B278 0 z _ _ _ h hP hS (lv_sub hl [0, 1, 2, 3, 4] rfl)
    · replace h := ho_ip hc h
      refine lv_iconst (v := 1) hx hb dX7_isBrokenAt_273 (by decide) ?_
      refine lv_goto (tgt := 278) hx hb dX7_isBrokenAt_274 (by decide) ?_
      exact B278 1 z _ _ _ h hP hS (lv_sub hl [0, 1, 2, 3, 4] rfl)
  unfold f_X7_isBrokenAt at h
  refine lv_aload_n hx hb dX7_isBrokenAt_0 rfl (lv_at hl 0 rfl) ?_
  refine lv_iload_n hx hb dX7_isBrokenAt_1 rfl (lv_at hl 2 rfl) ?_
  refine lv_iload hx hb dX7_isBrokenAt_2 (lv_at hl 4 rfl) ?_
  obtain ⟨_, hs, h⟩ := ho_bd h
  obtain ⟨⟨v1, z⟩, q, h⟩ := ho_bd h
  refine hw_ci hS (hp_runV (As := [.int x2, .int x4]) (rest := []) X hP hS hl.1 LX7 (ho_is_s hs) kX7_110 ⟨m4_21, mp_29⟩ (c_X7_at l G fu a0 x2 x4 _ _ _ q) rfl (Nat.le_of_ble_eq_true rfl) ⟨⟨Nat.le_of_ble_eq_true rfl, Nat.le_of_ble_eq_true rfl⟩, Nat.le_of_ble_eq_true rfl, Nat.le_of_ble_eq_true rfl⟩ dX7_isBrokenAt_4) (fun H locs hP hS => ?_)
  refine lv_iconst (v := (-1)) hx hb dX7_isBrokenAt_7 (by decide) ?_
  refine lv_icmp_eq (tgt := 27) hx hb dX7_isBrokenAt_8 (by decide) (fun hc => ?_) (fun hc => ?_)
  · replace h := ho_ip hc h
    exact B27 z _ _ _ h hP hS (lv_sub hl [0, 1, 2, 3, 4] rfl)
  · replace h := ho_in hc h
    refine lv_iload_n hx hb dX7_isBrokenAt_11 rfl (lv_at hl 3 rfl) ?_
    refine lv_iconst (v := (-1)) hx hb dX7_isBrokenAt_12 (by decide) ?_
    refine lv_icmp_eq (tgt := 29) hx hb dX7_isBrokenAt_13 (by decide) (fun hc => ?_) (fun hc => ?_)
    · replace h := ho_ip hc h
      exact B29 z _ _ _ h hP hS (lv_sub hl [0, 1, 2, 3, 4] rfl)
    · replace h := ho_in hc h
      refine lv_aload_n hx hb dX7_isBrokenAt_16 rfl (lv_at hl 0 rfl) ?_
      refine lv_iload_n hx hb dX7_isBrokenAt_17 rfl (lv_at hl 3 rfl) ?_
      refine lv_iload hx hb dX7_isBrokenAt_18 (lv_at hl 4 rfl) ?_
      obtain ⟨_, hs, h⟩ := ho_bd h
      obtain ⟨⟨v28, z⟩, q, h⟩ := ho_bd h
      refine hw_ci hS (hp_runV (As := [.int x3, .int x4]) (rest := []) X hP hS hl.1 LX7 (ho_is_s hs) kX7_110 ⟨m4_21, mp_29⟩ (c_X7_at l G fu a0 x3 x4 _ _ _ q) rfl (Nat.le_of_ble_eq_true rfl) ⟨⟨Nat.le_of_ble_eq_true rfl, Nat.le_of_ble_eq_true rfl⟩, Nat.le_of_ble_eq_true rfl, Nat.le_of_ble_eq_true rfl⟩ dX7_isBrokenAt_20) (fun H locs hP hS => ?_)
      refine lv_iconst (v := (-1)) hx hb dX7_isBrokenAt_23 (by decide) ?_
      refine lv_icmp_ne (tgt := 29) hx hb dX7_isBrokenAt_24 (by decide) (fun hc => ?_) (fun hc => ?_)
      · replace h := ho_in hc h
        exact B29 z _ _ _ h hP hS (lv_sub hl [0, 1, 2, 3, 4] rfl)
      · replace h := ho_ip hc h
        exact B27 z _ _ _ h hP hS (lv_sub hl [0, 1, 2, 3, 4] rfl)
def f_X7_goes_B25 (fu : Nat) (a0 : Nat) (x1 : Int32) (x2 : Int32) (x3 : Int32) (s0 : Int32) (z : hp_S) : Option (Int32 × hp_S) :=
  if vp_nar .boolean s0 = s0 then some (s0, z) else none
def f_X7_goes_B24 (fu : Nat) (a0 : Nat) (x1 : Int32) (x2 : Int32) (x3 : Int32) (z : hp_S) : Option (Int32 × hp_S) :=
  f_X7_goes_B25 fu a0 x1 x2 x3 0 z
def f_X7_goes (fu : Nat) (a0 : Nat) (x1 : Int32) (x2 : Int32) (x3 : Int32) (z : hp_S) : Option (Int32 × hp_S) :=
  (ho_is 7 a0 z).bind fun _ =>
  (f_X7_at fu a0 x1 x2 z).bind fun ⟨v1, z⟩ =>
  if v1 = (-1) then (
    f_X7_goes_B24 fu a0 x1 x2 x3  z
  ) else (
    (ho_is 7 a0 z).bind fun _ =>
    (f_X7_at fu a0 x1 x3 z).bind fun ⟨v2, z⟩ =>
    if v2 = (-1) then (
      f_X7_goes_B24 fu a0 x1 x2 x3  z
    ) else (
      f_X7_goes_B25 fu a0 x1 x2 x3 1 z
    )
  )
set_option maxHeartbeats 4000000 in
set_option maxRecDepth 100000 in
theorem c_X7_goes (l : Launch) (G : hp_G) (fu : Nat) (a0 : Nat) (x1 : Int32) (x2 : Int32) (x3 : Int32) (z : hp_S) (rq : Int32) (zq : hp_S) (h : f_X7_goes fu a0 x1 x2 x3 z = some (rq, zq)) : hp_M l G yX7_goes cX7_goes 4 (some .boolean) 1 22 0 0 [.ref a0, .int x1, .int x2, .int x3] z (hp_Qi G rq zq) := by
  refine hp_M.of (by decide) (Nat.le_of_ble_eq_true rfl) ?_
  intro p e s m below meth c X hr hlocks hnm hP hS ls hl
  have X : hp_C G cX7_goes RX7 4 p s m c := X
  have hl : lv_has ls 4 [(0, .ref a0), (1, .int x1), (2, .int x2), (3, .int x3)] := hl
  have hx := X.1
  have hb := X.2.1
  have B25 : ∀ (s0 : Int32) (z : hp_S) (H : Heap) (locs : List Loc) (ls : Array Slot), f_X7_goes_B25 fu a0 x1 x2 x3 s0 z = some (rq, zq) → hp_P G z H → va_S (hp_A G) s.heap H locs → lv_has ls 4 [(0, .ref a0), (1, .int x1), (2, .int x2), (3, .int x3)] → W p l e (hp_rm 1 22 0 0) s m [.ref a0, .int x1, .int x2, .int x3].toArray below meth c H locs 0 0 (MQ below (hp_Qi G rq zq) [.ref a0, .int x1, .int x2, .int x3].toArray s 0 0 (hp_A G)) (F0 m 25 ls [.int s0]) := by
    intro s0 z H locs ls h hP hS hl
    unfold f_X7_goes_B25 at h
    exact hw_zret X hP hS hr hlocks h dX7_goes_25
  have B24 : ∀ (z : hp_S) (H : Heap) (locs : List Loc) (ls : Array Slot), f_X7_goes_B24 fu a0 x1 x2 x3 z = some (rq, zq) → hp_P G z H → va_S (hp_A G) s.heap H locs → lv_has ls 4 [(0, .ref a0), (1, .int x1), (2, .int x2), (3, .int x3)] → W p l e (hp_rm 1 22 0 0) s m [.ref a0, .int x1, .int x2, .int x3].toArray below meth c H locs 0 0 (MQ below (hp_Qi G rq zq) [.ref a0, .int x1, .int x2, .int x3].toArray s 0 0 (hp_A G)) (F0 m 24 ls []) := by
    intro z H locs ls h hP hS hl
    unfold f_X7_goes_B24 at h
    refine lv_iconst (v := 0) hx hb dX7_goes_24 (by decide) ?_
    exact B25 0 z _ _ _ h hP hS (lv_sub hl [0, 1, 2, 3] rfl)
  unfold f_X7_goes at h
  refine lv_aload_n hx hb dX7_goes_0 rfl (lv_at hl 0 rfl) ?_
  refine lv_iload_n hx hb dX7_goes_1 rfl (lv_at hl 1 rfl) ?_
  refine lv_iload_n hx hb dX7_goes_2 rfl (lv_at hl 2 rfl) ?_
  obtain ⟨_, hs, h⟩ := ho_bd h
  obtain ⟨⟨v1, z⟩, q, h⟩ := ho_bd h
  refine hw_ci hS (hp_runV (As := [.int x1, .int x2]) (rest := []) X hP hS hl.1 LX7 (ho_is_s hs) kX7_110 ⟨m4_21, mp_29⟩ (c_X7_at l G fu a0 x1 x2 _ _ _ q) rfl (Nat.le_of_ble_eq_true rfl) ⟨⟨Nat.le_of_ble_eq_true rfl, Nat.le_of_ble_eq_true rfl⟩, Nat.le_of_ble_eq_true rfl, Nat.le_of_ble_eq_true rfl⟩ dX7_goes_3) (fun H locs hP hS => ?_)
  refine lv_iconst (v := (-1)) hx hb dX7_goes_6 (by decide) ?_
  refine lv_icmp_eq (tgt := 24) hx hb dX7_goes_7 (by decide) (fun hc => ?_) (fun hc => ?_)
  · replace h := ho_ip hc h
    exact B24 z _ _ _ h hP hS (lv_sub hl [0, 1, 2, 3] rfl)
  · replace h := ho_in hc h
    refine lv_aload_n hx hb dX7_goes_10 rfl (lv_at hl 0 rfl) ?_
    refine lv_iload_n hx hb dX7_goes_11 rfl (lv_at hl 1 rfl) ?_
    refine lv_iload_n hx hb dX7_goes_12 rfl (lv_at hl 3 rfl) ?_
    obtain ⟨_, hs, h⟩ := ho_bd h
    obtain ⟨⟨v2, z⟩, q, h⟩ := ho_bd h
    refine hw_ci hS (hp_runV (As := [.int x1, .int x3]) (rest := []) X hP hS hl.1 LX7 (ho_is_s hs) kX7_110 ⟨m4_21, mp_29⟩ (c_X7_at l G fu a0 x1 x3 _ _ _ q) rfl (Nat.le_of_ble_eq_true rfl) ⟨⟨Nat.le_of_ble_eq_true rfl, Nat.le_of_ble_eq_true rfl⟩, Nat.le_of_ble_eq_true rfl, Nat.le_of_ble_eq_true rfl⟩ dX7_goes_13) (fun H locs hP hS => ?_)
    refine lv_iconst (v := (-1)) hx hb dX7_goes_16 (by decide) ?_
    refine lv_icmp_eq (tgt := 24) hx hb dX7_goes_17 (by decide) (fun hc => ?_) (fun hc => ?_)
    · replace h := ho_ip hc h
      exact B24 z _ _ _ h hP hS (lv_sub hl [0, 1, 2, 3] rfl)
    · replace h := ho_in hc h
      refine lv_iconst (v := 1) hx hb dX7_goes_20 (by decide) ?_
      refine lv_goto (tgt := 25) hx hb dX7_goes_21 (by decide) ?_
      exact B25 1 z _ _ _ h hP hS (lv_sub hl [0, 1, 2, 3] rfl)
def f_X7_moves_B65 (fu : Nat) (a0 : Nat) (x1 : Int32) (x2 : Int32) (x3 : Int32) (s0 : Int32) (z : hp_S) : Option (Int32 × hp_S) :=
  if vp_nar .boolean s0 = s0 then some (s0, z) else none
def f_X7_moves_B64 (fu : Nat) (a0 : Nat) (x1 : Int32) (x2 : Int32) (x3 : Int32) (z : hp_S) : Option (Int32 × hp_S) :=
  f_X7_moves_B65 fu a0 x1 x2 x3 0 z
def f_X7_moves_B60 (fu : Nat) (a0 : Nat) (x1 : Int32) (x2 : Int32) (x3 : Int32) (z : hp_S) : Option (Int32 × hp_S) :=
  f_X7_moves_B65 fu a0 x1 x2 x3 1 z
def f_X7_moves (fu : Nat) (a0 : Nat) (x1 : Int32) (x2 : Int32) (x3 : Int32) (z : hp_S) : Option (Int32 × hp_S) :=
  (ho_is 7 a0 z).bind fun _ =>
  (f_X7_goes fu a0 x1 x2 x3 z).bind fun ⟨v1, z⟩ =>
  if v1 = 0 then (
    f_X7_moves_B64 fu a0 x1 x2 x3  z
  ) else (
    (ho_gr 7 a0 3 z).bind fun r2 =>
    (ho_is 7 a0 z).bind fun _ =>
    (f_X7_at fu a0 x1 x2 z).bind fun ⟨v3, z⟩ =>
    (ho_li 1 r2 v3 z).bind fun v4 =>
    (ho_gr 7 a0 3 z).bind fun r5 =>
    (ho_is 7 a0 z).bind fun _ =>
    (f_X7_at fu a0 x1 x3 z).bind fun ⟨v6, z⟩ =>
    (ho_li 1 r5 v6 z).bind fun v7 =>
    if v4 = v7 then (
      (ho_gr 7 a0 4 z).bind fun r8 =>
      (ho_is 7 a0 z).bind fun _ =>
      (f_X7_at fu a0 x1 x2 z).bind fun ⟨v9, z⟩ =>
      (ho_li 1 r8 v9 z).bind fun v10 =>
      (ho_gr 7 a0 4 z).bind fun r11 =>
      (ho_is 7 a0 z).bind fun _ =>
      (f_X7_at fu a0 x1 x3 z).bind fun ⟨v12, z⟩ =>
      (ho_li 1 r11 v12 z).bind fun v13 =>
      if v10 = v13 then (
        f_X7_moves_B64 fu a0 x1 x2 x3  z
      ) else (
        f_X7_moves_B60 fu a0 x1 x2 x3  z
      )
    ) else (
      f_X7_moves_B60 fu a0 x1 x2 x3  z
    )
  )
set_option maxHeartbeats 4000000 in
set_option maxRecDepth 100000 in
theorem c_X7_moves (l : Launch) (G : hp_G) (fu : Nat) (a0 : Nat) (x1 : Int32) (x2 : Int32) (x3 : Int32) (z : hp_S) (rq : Int32) (zq : hp_S) (h : f_X7_moves fu a0 x1 x2 x3 z = some (rq, zq)) : hp_M l G yX7_moves cX7_moves 4 (some .boolean) 2 45 0 0 [.ref a0, .int x1, .int x2, .int x3] z (hp_Qi G rq zq) := by
  refine hp_M.of (by decide) (Nat.le_of_ble_eq_true rfl) ?_
  intro p e s m below meth c X hr hlocks hnm hP hS ls hl
  have X : hp_C G cX7_moves RX7 4 p s m c := X
  have hl : lv_has ls 4 [(0, .ref a0), (1, .int x1), (2, .int x2), (3, .int x3)] := hl
  have hx := X.1
  have hb := X.2.1
  have B65 : ∀ (s0 : Int32) (z : hp_S) (H : Heap) (locs : List Loc) (ls : Array Slot), f_X7_moves_B65 fu a0 x1 x2 x3 s0 z = some (rq, zq) → hp_P G z H → va_S (hp_A G) s.heap H locs → lv_has ls 4 [(0, .ref a0), (1, .int x1), (2, .int x2), (3, .int x3)] → W p l e (hp_rm 2 45 0 0) s m [.ref a0, .int x1, .int x2, .int x3].toArray below meth c H locs 0 0 (MQ below (hp_Qi G rq zq) [.ref a0, .int x1, .int x2, .int x3].toArray s 0 0 (hp_A G)) (F0 m 65 ls [.int s0]) := by
    intro s0 z H locs ls h hP hS hl
    unfold f_X7_moves_B65 at h
    exact hw_zret X hP hS hr hlocks h dX7_moves_65
  have B64 : ∀ (z : hp_S) (H : Heap) (locs : List Loc) (ls : Array Slot), f_X7_moves_B64 fu a0 x1 x2 x3 z = some (rq, zq) → hp_P G z H → va_S (hp_A G) s.heap H locs → lv_has ls 4 [(0, .ref a0), (1, .int x1), (2, .int x2), (3, .int x3)] → W p l e (hp_rm 2 45 0 0) s m [.ref a0, .int x1, .int x2, .int x3].toArray below meth c H locs 0 0 (MQ below (hp_Qi G rq zq) [.ref a0, .int x1, .int x2, .int x3].toArray s 0 0 (hp_A G)) (F0 m 64 ls []) := by
    intro z H locs ls h hP hS hl
    unfold f_X7_moves_B64 at h
    refine lv_iconst (v := 0) hx hb dX7_moves_64 (by decide) ?_
    exact B65 0 z _ _ _ h hP hS (lv_sub hl [0, 1, 2, 3] rfl)
  have B60 : ∀ (z : hp_S) (H : Heap) (locs : List Loc) (ls : Array Slot), f_X7_moves_B60 fu a0 x1 x2 x3 z = some (rq, zq) → hp_P G z H → va_S (hp_A G) s.heap H locs → lv_has ls 4 [(0, .ref a0), (1, .int x1), (2, .int x2), (3, .int x3)] → W p l e (hp_rm 2 45 0 0) s m [.ref a0, .int x1, .int x2, .int x3].toArray below meth c H locs 0 0 (MQ below (hp_Qi G rq zq) [.ref a0, .int x1, .int x2, .int x3].toArray s 0 0 (hp_A G)) (F0 m 60 ls []) := by
    intro z H locs ls h hP hS hl
    unfold f_X7_moves_B60 at h
    refine lv_iconst (v := 1) hx hb dX7_moves_60 (by decide) ?_
    refine lv_goto (tgt := 65) hx hb dX7_moves_61 (by decide) ?_
    exact B65 1 z _ _ _ h hP hS (lv_sub hl [0, 1, 2, 3] rfl)
  unfold f_X7_moves at h
  refine lv_aload_n hx hb dX7_moves_0 rfl (lv_at hl 0 rfl) ?_
  refine lv_iload_n hx hb dX7_moves_1 rfl (lv_at hl 1 rfl) ?_
  refine lv_iload_n hx hb dX7_moves_2 rfl (lv_at hl 2 rfl) ?_
  refine lv_iload_n hx hb dX7_moves_3 rfl (lv_at hl 3 rfl) ?_
  obtain ⟨_, hs, h⟩ := ho_bd h
  obtain ⟨⟨v1, z⟩, q, h⟩ := ho_bd h
  refine hw_ci hS (hp_runV (As := [.int x1, .int x2, .int x3]) (rest := []) X hP hS hl.1 LX7 (ho_is_s hs) kX7_121 ⟨m4_52, mp_36⟩ (c_X7_goes l G fu a0 x1 x2 x3 _ _ _ q) rfl (Nat.le_of_ble_eq_true rfl) ⟨⟨Nat.le_of_ble_eq_true rfl, Nat.le_of_ble_eq_true rfl⟩, Nat.le_of_ble_eq_true rfl, Nat.le_of_ble_eq_true rfl⟩ dX7_moves_4) (fun H locs hP hS => ?_)
  refine lv_if_eq (tgt := 64) hx hb dX7_moves_7 (by decide) (fun hc => ?_) (fun hc => ?_)
  · replace h := ho_ip hc h
    exact B64 z _ _ _ h hP hS (lv_sub hl [0, 1, 2, 3] rfl)
  · replace h := ho_in hc h
    refine lv_aload_n hx hb dX7_moves_10 rfl (lv_at hl 0 rfl) ?_
    obtain ⟨r2, q, h⟩ := ho_bd h
    refine hw_gr X hP LX7 fX7_16 rfl q dX7_moves_11 ?_
    refine lv_aload_n hx hb dX7_moves_14 rfl (lv_at hl 0 rfl) ?_
    refine lv_iload_n hx hb dX7_moves_15 rfl (lv_at hl 1 rfl) ?_
    refine lv_iload_n hx hb dX7_moves_16 rfl (lv_at hl 2 rfl) ?_
    obtain ⟨_, hs, h⟩ := ho_bd h
    obtain ⟨⟨v3, z⟩, q, h⟩ := ho_bd h
    refine hw_ci hS (hp_runV (As := [.int x1, .int x2]) (rest := [.ref r2]) X hP hS hl.1 LX7 (ho_is_s hs) kX7_110 ⟨m4_21, mp_29⟩ (c_X7_at l G fu a0 x1 x2 _ _ _ q) rfl (Nat.le_of_ble_eq_true rfl) ⟨⟨Nat.le_of_ble_eq_true rfl, Nat.le_of_ble_eq_true rfl⟩, Nat.le_of_ble_eq_true rfl, Nat.le_of_ble_eq_true rfl⟩ dX7_moves_17) (fun H locs hP hS => ?_)
    obtain ⟨v4, q, h⟩ := ho_bd h
    refine hw_li X hP q dX7_moves_20 ?_
    refine lv_aload_n hx hb dX7_moves_21 rfl (lv_at hl 0 rfl) ?_
    obtain ⟨r5, q, h⟩ := ho_bd h
    refine hw_gr X hP LX7 fX7_16 rfl q dX7_moves_22 ?_
    refine lv_aload_n hx hb dX7_moves_25 rfl (lv_at hl 0 rfl) ?_
    refine lv_iload_n hx hb dX7_moves_26 rfl (lv_at hl 1 rfl) ?_
    refine lv_iload_n hx hb dX7_moves_27 rfl (lv_at hl 3 rfl) ?_
    obtain ⟨_, hs, h⟩ := ho_bd h
    obtain ⟨⟨v6, z⟩, q, h⟩ := ho_bd h
    refine hw_ci hS (hp_runV (As := [.int x1, .int x3]) (rest := [.ref r5, .int v4]) X hP hS hl.1 LX7 (ho_is_s hs) kX7_110 ⟨m4_21, mp_29⟩ (c_X7_at l G fu a0 x1 x3 _ _ _ q) rfl (Nat.le_of_ble_eq_true rfl) ⟨⟨Nat.le_of_ble_eq_true rfl, Nat.le_of_ble_eq_true rfl⟩, Nat.le_of_ble_eq_true rfl, Nat.le_of_ble_eq_true rfl⟩ dX7_moves_28) (fun H locs hP hS => ?_)
    obtain ⟨v7, q, h⟩ := ho_bd h
    refine hw_li X hP q dX7_moves_31 ?_
    refine lv_icmp_ne (tgt := 60) hx hb dX7_moves_32 (by decide) (fun hc => ?_) (fun hc => ?_)
    · replace h := ho_in hc h
      exact B60 z _ _ _ h hP hS (lv_sub hl [0, 1, 2, 3] rfl)
    · replace h := ho_ip hc h
      refine lv_aload_n hx hb dX7_moves_35 rfl (lv_at hl 0 rfl) ?_
      obtain ⟨r8, q, h⟩ := ho_bd h
      refine hw_gr X hP LX7 fX7_19 rfl q dX7_moves_36 ?_
      refine lv_aload_n hx hb dX7_moves_39 rfl (lv_at hl 0 rfl) ?_
      refine lv_iload_n hx hb dX7_moves_40 rfl (lv_at hl 1 rfl) ?_
      refine lv_iload_n hx hb dX7_moves_41 rfl (lv_at hl 2 rfl) ?_
      obtain ⟨_, hs, h⟩ := ho_bd h
      obtain ⟨⟨v9, z⟩, q, h⟩ := ho_bd h
      refine hw_ci hS (hp_runV (As := [.int x1, .int x2]) (rest := [.ref r8]) X hP hS hl.1 LX7 (ho_is_s hs) kX7_110 ⟨m4_21, mp_29⟩ (c_X7_at l G fu a0 x1 x2 _ _ _ q) rfl (Nat.le_of_ble_eq_true rfl) ⟨⟨Nat.le_of_ble_eq_true rfl, Nat.le_of_ble_eq_true rfl⟩, Nat.le_of_ble_eq_true rfl, Nat.le_of_ble_eq_true rfl⟩ dX7_moves_42) (fun H locs hP hS => ?_)
      obtain ⟨v10, q, h⟩ := ho_bd h
      refine hw_li X hP q dX7_moves_45 ?_
      refine lv_aload_n hx hb dX7_moves_46 rfl (lv_at hl 0 rfl) ?_
      obtain ⟨r11, q, h⟩ := ho_bd h
      refine hw_gr X hP LX7 fX7_19 rfl q dX7_moves_47 ?_
      refine lv_aload_n hx hb dX7_moves_50 rfl (lv_at hl 0 rfl) ?_
      refine lv_iload_n hx hb dX7_moves_51 rfl (lv_at hl 1 rfl) ?_
      refine lv_iload_n hx hb dX7_moves_52 rfl (lv_at hl 3 rfl) ?_
      obtain ⟨_, hs, h⟩ := ho_bd h
      obtain ⟨⟨v12, z⟩, q, h⟩ := ho_bd h
      refine hw_ci hS (hp_runV (As := [.int x1, .int x3]) (rest := [.ref r11, .int v10]) X hP hS hl.1 LX7 (ho_is_s hs) kX7_110 ⟨m4_21, mp_29⟩ (c_X7_at l G fu a0 x1 x3 _ _ _ q) rfl (Nat.le_of_ble_eq_true rfl) ⟨⟨Nat.le_of_ble_eq_true rfl, Nat.le_of_ble_eq_true rfl⟩, Nat.le_of_ble_eq_true rfl, Nat.le_of_ble_eq_true rfl⟩ dX7_moves_53) (fun H locs hP hS => ?_)
      obtain ⟨v13, q, h⟩ := ho_bd h
      refine hw_li X hP q dX7_moves_56 ?_
      refine lv_icmp_eq (tgt := 64) hx hb dX7_moves_57 (by decide) (fun hc => ?_) (fun hc => ?_)
      · replace h := ho_ip hc h
        exact B64 z _ _ _ h hP hS (lv_sub hl [0, 1, 2, 3] rfl)
      · replace h := ho_in hc h
        exact B60 z _ _ _ h hP hS (lv_sub hl [0, 1, 2, 3] rfl)
def f_X7_way_B54 (fu : Nat) (a0 : Nat) (x1 : Int32) (x2 : Int32) (x3 : Int32) (s0 : Int32) (z : hp_S) : Option (Int32 × hp_S) :=
  some (s0, z)
def f_X7_way (fu : Nat) (a0 : Nat) (x1 : Int32) (x2 : Int32) (x3 : Int32) (z : hp_S) : Option (Int32 × hp_S) :=
  (ho_is 7 a0 z).bind fun _ =>
  (f_X7_moves fu a0 x1 x2 x3 z).bind fun ⟨v1, z⟩ =>
  if v1 = 0 then (
    some (0, z)
  ) else (
    (ho_is 7 a0 z).bind fun _ =>
    (f_X7_at fu a0 x1 x3 z).bind fun ⟨v2, z⟩ =>
    (ho_is 7 a0 z).bind fun _ =>
    (f_X7_heightOf fu a0 v2 z).bind fun ⟨v3, z⟩ =>
    (ho_is 7 a0 z).bind fun _ =>
    (f_X7_at fu a0 x1 x2 z).bind fun ⟨v4, z⟩ =>
    (ho_is 7 a0 z).bind fun _ =>
    (f_X7_heightOf fu a0 v4 z).bind fun ⟨v5, z⟩ =>
    (ho_id (v3 - v5)).bind fun v6 =>
    if v6 ≤ 0 then (
      if 0 ≤ v6 then (
        f_X7_way_B54 fu a0 x1 x2 x3 0 z
      ) else (
        f_X7_way_B54 fu a0 x1 x2 x3 (-1) z
      )
    ) else (
      f_X7_way_B54 fu a0 x1 x2 x3 1 z
    )
  )
set_option maxHeartbeats 4000000 in
set_option maxRecDepth 100000 in
theorem c_X7_way (l : Launch) (G : hp_G) (fu : Nat) (a0 : Nat) (x1 : Int32) (x2 : Int32) (x3 : Int32) (z : hp_S) (rq : Int32) (zq : hp_S) (h : f_X7_way fu a0 x1 x2 x3 z = some (rq, zq)) : hp_M l G yX7_way cX7_way 5 (some .int) 3 68 0 0 [.ref a0, .int x1, .int x2, .int x3] z (hp_Qi G rq zq) := by
  refine hp_M.of (by decide) (Nat.le_of_ble_eq_true rfl) ?_
  intro p e s m below meth c X hr hlocks hnm hP hS ls hl
  have X : hp_C G cX7_way RX7 5 p s m c := X
  have hl : lv_has ls 5 [(0, .ref a0), (1, .int x1), (2, .int x2), (3, .int x3)] := hl
  have hx := X.1
  have hb := X.2.1
  have B54 : ∀ (s0 : Int32) (z : hp_S) (H : Heap) (locs : List Loc) (ls : Array Slot), f_X7_way_B54 fu a0 x1 x2 x3 s0 z = some (rq, zq) → hp_P G z H → va_S (hp_A G) s.heap H locs → lv_has ls 5 [(0, .ref a0), (1, .int x1), (2, .int x2), (3, .int x3)] → W p l e (hp_rm 3 68 0 0) s m [.ref a0, .int x1, .int x2, .int x3].toArray below meth c H locs 0 0 (MQ below (hp_Qi G rq zq) [.ref a0, .int x1, .int x2, .int x3].toArray s 0 0 (hp_A G)) (F0 m 54 ls [.int s0]) := by
    intro s0 z H locs ls h hP hS hl
    unfold f_X7_way_B54 at h
    exact hw_iret X hP hS hr hlocks h dX7_way_54
  unfold f_X7_way at h
  refine lv_aload_n hx hb dX7_way_0 rfl (lv_at hl 0 rfl) ?_
  refine lv_iload_n hx hb dX7_way_1 rfl (lv_at hl 1 rfl) ?_
  refine lv_iload_n hx hb dX7_way_2 rfl (lv_at hl 2 rfl) ?_
  refine lv_iload_n hx hb dX7_way_3 rfl (lv_at hl 3 rfl) ?_
  obtain ⟨_, hs, h⟩ := ho_bd h
  obtain ⟨⟨v1, z⟩, q, h⟩ := ho_bd h
  refine hw_ci hS (hp_runV (As := [.int x1, .int x2, .int x3]) (rest := []) X hP hS hl.1 LX7 (ho_is_s hs) kX7_124 ⟨m4_48, mp_35⟩ (c_X7_moves l G fu a0 x1 x2 x3 _ _ _ q) rfl (Nat.le_of_ble_eq_true rfl) ⟨⟨Nat.le_of_ble_eq_true rfl, Nat.le_of_ble_eq_true rfl⟩, Nat.le_of_ble_eq_true rfl, Nat.le_of_ble_eq_true rfl⟩ dX7_way_4) (fun H locs hP hS => ?_)
  refine lv_if_ne (tgt := 12) hx hb dX7_way_7 (by decide) (fun hc => ?_) (fun hc => ?_)
  · replace h := ho_in hc h
    refine lv_aload_n hx hb dX7_way_12 rfl (lv_at hl 0 rfl) ?_
    refine lv_aload_n hx hb dX7_way_13 rfl (lv_at hl 0 rfl) ?_
    refine lv_iload_n hx hb dX7_way_14 rfl (lv_at hl 1 rfl) ?_
    refine lv_iload_n hx hb dX7_way_15 rfl (lv_at hl 3 rfl) ?_
    obtain ⟨_, hs, h⟩ := ho_bd h
    obtain ⟨⟨v2, z⟩, q, h⟩ := ho_bd h
    refine hw_ci hS (hp_runV (As := [.int x1, .int x3]) (rest := [.ref a0]) X hP hS hl.1 LX7 (ho_is_s hs) kX7_110 ⟨m4_21, mp_29⟩ (c_X7_at l G fu a0 x1 x3 _ _ _ q) rfl (Nat.le_of_ble_eq_true rfl) ⟨⟨Nat.le_of_ble_eq_true rfl, Nat.le_of_ble_eq_true rfl⟩, Nat.le_of_ble_eq_true rfl, Nat.le_of_ble_eq_true rfl⟩ dX7_way_16) (fun H locs hP hS => ?_)
    obtain ⟨_, hs, h⟩ := ho_bd h
    obtain ⟨⟨v3, z⟩, q, h⟩ := ho_bd h
    refine hw_ci hS (hp_runV (As := [.int v2]) (rest := []) X hP hS hl.1 LX7 (ho_is_s hs) kX7_97 ⟨m3_215, mp_23⟩ (c_X7_heightOf l G fu a0 v2 _ _ _ q) rfl (Nat.le_of_ble_eq_true rfl) ⟨⟨Nat.le_of_ble_eq_true rfl, Nat.le_of_ble_eq_true rfl⟩, Nat.le_of_ble_eq_true rfl, Nat.le_of_ble_eq_true rfl⟩ dX7_way_19) (fun H locs hP hS => ?_)
    refine lv_aload_n hx hb dX7_way_22 rfl (lv_at hl 0 rfl) ?_
    refine lv_aload_n hx hb dX7_way_23 rfl (lv_at hl 0 rfl) ?_
    refine lv_iload_n hx hb dX7_way_24 rfl (lv_at hl 1 rfl) ?_
    refine lv_iload_n hx hb dX7_way_25 rfl (lv_at hl 2 rfl) ?_
    obtain ⟨_, hs, h⟩ := ho_bd h
    obtain ⟨⟨v4, z⟩, q, h⟩ := ho_bd h
    refine hw_ci hS (hp_runV (As := [.int x1, .int x2]) (rest := [.ref a0, .int v3]) X hP hS hl.1 LX7 (ho_is_s hs) kX7_110 ⟨m4_21, mp_29⟩ (c_X7_at l G fu a0 x1 x2 _ _ _ q) rfl (Nat.le_of_ble_eq_true rfl) ⟨⟨Nat.le_of_ble_eq_true rfl, Nat.le_of_ble_eq_true rfl⟩, Nat.le_of_ble_eq_true rfl, Nat.le_of_ble_eq_true rfl⟩ dX7_way_26) (fun H locs hP hS => ?_)
    obtain ⟨_, hs, h⟩ := ho_bd h
    obtain ⟨⟨v5, z⟩, q, h⟩ := ho_bd h
    refine hw_ci hS (hp_runV (As := [.int v4]) (rest := [.int v3]) X hP hS hl.1 LX7 (ho_is_s hs) kX7_97 ⟨m3_215, mp_23⟩ (c_X7_heightOf l G fu a0 v4 _ _ _ q) rfl (Nat.le_of_ble_eq_true rfl) ⟨⟨Nat.le_of_ble_eq_true rfl, Nat.le_of_ble_eq_true rfl⟩, Nat.le_of_ble_eq_true rfl, Nat.le_of_ble_eq_true rfl⟩ dX7_way_29) (fun H locs hP hS => ?_)
    refine lv_isub hx hb dX7_way_32 ?_
    obtain ⟨v6, q, h⟩ := ho_bd h
    refine hw_id q ?_
    refine lv_istore (lv' := [(4, .int v6), (0, .ref a0), (1, .int x1), (2, .int x2), (3, .int x3)]) hx hb dX7_way_33 hl (by decide) rfl (fun ls hl => ?_)
    refine lv_iload hx hb dX7_way_35 (lv_at hl 0 rfl) ?_
    refine lv_if_le (tgt := 44) hx hb dX7_way_37 (by decide) (fun hc => ?_) (fun hc => ?_)
    · replace h := ho_ip hc h
      refine lv_iload hx hb dX7_way_44 (lv_at hl 0 rfl) ?_
      refine lv_if_ge (tgt := 53) hx hb dX7_way_46 (by decide) (fun hc => ?_) (fun hc => ?_)
      · replace h := ho_ip hc h
        refine lv_iconst (v := 0) hx hb dX7_way_53 (by decide) ?_
        exact B54 0 z _ _ _ h hP hS (lv_sub hl [1, 2, 3, 4] rfl)
      · replace h := ho_in hc h
        refine lv_iconst (v := (-1)) hx hb dX7_way_49 (by decide) ?_
        refine lv_goto (tgt := 54) hx hb dX7_way_50 (by decide) ?_
        exact B54 (-1) z _ _ _ h hP hS (lv_sub hl [1, 2, 3, 4] rfl)
    · replace h := ho_in hc h
      refine lv_iconst (v := 1) hx hb dX7_way_40 (by decide) ?_
      refine lv_goto (tgt := 54) hx hb dX7_way_41 (by decide) ?_
      exact B54 1 z _ _ _ h hP hS (lv_sub hl [1, 2, 3, 4] rfl)
  · replace h := ho_ip hc h
    refine lv_iconst (v := 0) hx hb dX7_way_10 (by decide) ?_
    exact hw_iret X hP hS hr hlocks h dX7_way_11
def f_X7_goAlike_B26 (fu : Nat) (a0 : Nat) (x1 : Int32) (x2 : Int32) (x3 : Int32) (x4 : Int32) (s0 : Int32) (z : hp_S) : Option (Int32 × hp_S) :=
  if vp_nar .boolean s0 = s0 then some (s0, z) else none
def f_X7_goAlike (fu : Nat) (a0 : Nat) (x1 : Int32) (x2 : Int32) (x3 : Int32) (x4 : Int32) (z : hp_S) : Option (Int32 × hp_S) :=
  (ho_is 7 a0 z).bind fun _ =>
  (f_X7_way fu a0 x1 x3 x4 z).bind fun ⟨v1, z⟩ =>
  (ho_is 7 a0 z).bind fun _ =>
  (f_X7_way fu a0 x2 x3 x4 z).bind fun ⟨v2, z⟩ =>
  if (v1 * v2) = 1 then (
    f_X7_goAlike_B26 fu a0 x1 x2 x3 x4 1 z
  ) else (
    f_X7_goAlike_B26 fu a0 x1 x2 x3 x4 0 z
  )
set_option maxHeartbeats 4000000 in
set_option maxRecDepth 100000 in
theorem c_X7_goAlike (l : Launch) (G : hp_G) (fu : Nat) (a0 : Nat) (x1 : Int32) (x2 : Int32) (x3 : Int32) (x4 : Int32) (z : hp_S) (rq : Int32) (zq : hp_S) (h : f_X7_goAlike fu a0 x1 x2 x3 x4 z = some (rq, zq)) : hp_M l G yX7_goAlike cX7_goAlike 5 (some .boolean) 4 92 0 0 [.ref a0, .int x1, .int x2, .int x3, .int x4] z (hp_Qi G rq zq) := by
  refine hp_M.of (by decide) (Nat.le_of_ble_eq_true rfl) ?_
  intro p e s m below meth c X hr hlocks hnm hP hS ls hl
  have X : hp_C G cX7_goAlike RX7 5 p s m c := X
  have hl : lv_has ls 5 [(0, .ref a0), (1, .int x1), (2, .int x2), (3, .int x3), (4, .int x4)] := hl
  have hx := X.1
  have hb := X.2.1
  have B26 : ∀ (s0 : Int32) (z : hp_S) (H : Heap) (locs : List Loc) (ls : Array Slot), f_X7_goAlike_B26 fu a0 x1 x2 x3 x4 s0 z = some (rq, zq) → hp_P G z H → va_S (hp_A G) s.heap H locs → lv_has ls 5 [(0, .ref a0), (1, .int x1), (2, .int x2), (3, .int x3), (4, .int x4)] → W p l e (hp_rm 4 92 0 0) s m [.ref a0, .int x1, .int x2, .int x3, .int x4].toArray below meth c H locs 0 0 (MQ below (hp_Qi G rq zq) [.ref a0, .int x1, .int x2, .int x3, .int x4].toArray s 0 0 (hp_A G)) (F0 m 26 ls [.int s0]) := by
    intro s0 z H locs ls h hP hS hl
    unfold f_X7_goAlike_B26 at h
    exact hw_zret X hP hS hr hlocks h dX7_goAlike_26
  unfold f_X7_goAlike at h
  refine lv_aload_n hx hb dX7_goAlike_0 rfl (lv_at hl 0 rfl) ?_
  refine lv_iload_n hx hb dX7_goAlike_1 rfl (lv_at hl 1 rfl) ?_
  refine lv_iload_n hx hb dX7_goAlike_2 rfl (lv_at hl 3 rfl) ?_
  refine lv_iload hx hb dX7_goAlike_3 (lv_at hl 4 rfl) ?_
  obtain ⟨_, hs, h⟩ := ho_bd h
  obtain ⟨⟨v1, z⟩, q, h⟩ := ho_bd h
  refine hw_ci hS (hp_runV (As := [.int x1, .int x3, .int x4]) (rest := []) X hP hS hl.1 LX7 (ho_is_s hs) kX7_127 ⟨m4_44, mp_34⟩ (c_X7_way l G fu a0 x1 x3 x4 _ _ _ q) rfl (Nat.le_of_ble_eq_true rfl) ⟨⟨Nat.le_of_ble_eq_true rfl, Nat.le_of_ble_eq_true rfl⟩, Nat.le_of_ble_eq_true rfl, Nat.le_of_ble_eq_true rfl⟩ dX7_goAlike_5) (fun H locs hP hS => ?_)
  refine lv_aload_n hx hb dX7_goAlike_8 rfl (lv_at hl 0 rfl) ?_
  refine lv_iload_n hx hb dX7_goAlike_9 rfl (lv_at hl 2 rfl) ?_
  refine lv_iload_n hx hb dX7_goAlike_10 rfl (lv_at hl 3 rfl) ?_
  refine lv_iload hx hb dX7_goAlike_11 (lv_at hl 4 rfl) ?_
  obtain ⟨_, hs, h⟩ := ho_bd h
  obtain ⟨⟨v2, z⟩, q, h⟩ := ho_bd h
  refine hw_ci hS (hp_runV (As := [.int x2, .int x3, .int x4]) (rest := [.int v1]) X hP hS hl.1 LX7 (ho_is_s hs) kX7_127 ⟨m4_44, mp_34⟩ (c_X7_way l G fu a0 x2 x3 x4 _ _ _ q) rfl (Nat.le_of_ble_eq_true rfl) ⟨⟨Nat.le_of_ble_eq_true rfl, Nat.le_of_ble_eq_true rfl⟩, Nat.le_of_ble_eq_true rfl, Nat.le_of_ble_eq_true rfl⟩ dX7_goAlike_13) (fun H locs hP hS => ?_)
  refine lv_imul hx hb dX7_goAlike_16 ?_
  refine lv_iconst (v := 1) hx hb dX7_goAlike_17 (by decide) ?_
  refine lv_icmp_ne (tgt := 25) hx hb dX7_goAlike_18 (by decide) (fun hc => ?_) (fun hc => ?_)
  · replace h := ho_in hc h
    refine lv_iconst (v := 0) hx hb dX7_goAlike_25 (by decide) ?_
    exact B26 0 z _ _ _ h hP hS (lv_sub hl [0, 1, 2, 3, 4] rfl)
  · replace h := ho_ip hc h
    refine lv_iconst (v := 1) hx hb dX7_goAlike_21 (by decide) ?_
    refine lv_goto (tgt := 26) hx hb dX7_goAlike_22 (by decide) ?_
    exact B26 1 z _ _ _ h hP hS (lv_sub hl [0, 1, 2, 3, 4] rfl)
def f_X7_which_B20 (fu : Nat) (a0 : Nat) (x1 : Int32) (x2 : Int32) (x3 : Int32) (z : hp_S) : Option (Int32 × hp_S) :=
  some ((-100), z)
def f_X7_which_B127 (fu : Nat) (a0 : Nat) (x1 : Int32) (x2 : Int32) (x3 : Int32) (s0 : Int32) (z : hp_S) : Option (Int32 × hp_S) :=
  some (s0, z)
def f_X7_which_B122 (fu : Nat) (a0 : Nat) (x1 : Int32) (x2 : Int32) (x3 : Int32) (z : hp_S) : Option (Int32 × hp_S) :=
  f_X7_which_B127 fu a0 x1 x2 x3 3 z
def f_X7_which_B96 (fu : Nat) (a0 : Nat) (x1 : Int32) (x2 : Int32) (x3 : Int32) (w5 : Int32) (z : hp_S) : Option (Int32 × hp_S) :=
  if w5 = 1 then (
    f_X7_which_B122 fu a0 x1 x2 x3  z
  ) else (
    if w5 = 2 then (
      f_X7_which_B122 fu a0 x1 x2 x3  z
    ) else (
      if w5 = 6 then (
        f_X7_which_B122 fu a0 x1 x2 x3  z
      ) else (
        if w5 ≤ 9 then (
          f_X7_which_B127 fu a0 x1 x2 x3 0 z
        ) else (
          f_X7_which_B122 fu a0 x1 x2 x3  z
        )
      )
    )
  )
def f_X7_which_B81 (fu : Nat) (a0 : Nat) (x1 : Int32) (x2 : Int32) (x3 : Int32) (w4 : Int32) (w5 : Int32) (z : hp_S) : Option (Int32 × hp_S) :=
  if w4 = 4 then (
    if w5 = 7 then (
      some (2, z)
    ) else (
      f_X7_which_B96 fu a0 x1 x2 x3 w5 z
    )
  ) else (
    f_X7_which_B96 fu a0 x1 x2 x3 w5 z
  )
def f_X7_which (fu : Nat) (a0 : Nat) (x1 : Int32) (x2 : Int32) (x3 : Int32) (z : hp_S) : Option (Int32 × hp_S) :=
  (ho_is 7 a0 z).bind fun _ =>
  (f_X7_at fu a0 x1 x3 z).bind fun ⟨v1, z⟩ =>
  if v1 = (-1) then (
    f_X7_which_B20 fu a0 x1 x2 x3  z
  ) else (
    (ho_is 7 a0 z).bind fun _ =>
    (f_X7_at fu a0 x2 x3 z).bind fun ⟨v2, z⟩ =>
    if v2 = (-1) then (
      f_X7_which_B20 fu a0 x1 x2 x3  z
    ) else (
      (ho_gr 7 a0 3 z).bind fun r3 =>
      (ho_is 7 a0 z).bind fun _ =>
      (f_X7_at fu a0 x2 x3 z).bind fun ⟨v4, z⟩ =>
      (ho_li 1 r3 v4 z).bind fun v5 =>
      (ho_gr 7 a0 3 z).bind fun r6 =>
      (ho_is 7 a0 z).bind fun _ =>
      (f_X7_at fu a0 x1 x3 z).bind fun ⟨v7, z⟩ =>
      (ho_li 1 r6 v7 z).bind fun v8 =>
      (f_X7_modulo fu (v5 - v8) 7 0 z).bind fun ⟨v9, z⟩ =>
      (ho_is 7 a0 z).bind fun _ =>
      (f_X7_betweenHeights fu a0 x1 x2 x3 z).bind fun ⟨v10, z⟩ =>
      (f_X7_modulo fu v10 12 0 z).bind fun ⟨v11, z⟩ =>
      if v9 = 0 then (
        if v11 = 0 then (
          some (1, z)
        ) else (
          f_X7_which_B81 fu a0 x1 x2 x3 v9 v11 z
        )
      ) else (
        f_X7_which_B81 fu a0 x1 x2 x3 v9 v11 z
      )
    )
  )
set_option maxHeartbeats 4000000 in
set_option maxRecDepth 100000 in
theorem c_X7_which (l : Launch) (G : hp_G) (fu : Nat) (a0 : Nat) (x1 : Int32) (x2 : Int32) (x3 : Int32) (z : hp_S) (rq : Int32) (zq : hp_S) (h : f_X7_which fu a0 x1 x2 x3 z = some (rq, zq)) : hp_M l G yX7_which cX7_which 6 (some .int) 3 64 0 0 [.ref a0, .int x1, .int x2, .int x3] z (hp_Qi G rq zq) := by
  refine hp_M.of (by decide) (Nat.le_of_ble_eq_true rfl) ?_
  intro p e s m below meth c X hr hlocks hnm hP hS ls hl
  have X : hp_C G cX7_which RX7 6 p s m c := X
  have hl : lv_has ls 6 [(0, .ref a0), (1, .int x1), (2, .int x2), (3, .int x3)] := hl
  have hx := X.1
  have hb := X.2.1
  have B20 : ∀ (z : hp_S) (H : Heap) (locs : List Loc) (ls : Array Slot), f_X7_which_B20 fu a0 x1 x2 x3 z = some (rq, zq) → hp_P G z H → va_S (hp_A G) s.heap H locs → lv_has ls 6 [(0, .ref a0), (1, .int x1), (2, .int x2), (3, .int x3)] → W p l e (hp_rm 3 64 0 0) s m [.ref a0, .int x1, .int x2, .int x3].toArray below meth c H locs 0 0 (MQ below (hp_Qi G rq zq) [.ref a0, .int x1, .int x2, .int x3].toArray s 0 0 (hp_A G)) (F0 m 20 ls []) := by
    intro z H locs ls h hP hS hl
    unfold f_X7_which_B20 at h
    refine lv_bipush (v := (-100)) hx hb dX7_which_20 (by decide) ?_
    exact hw_iret X hP hS hr hlocks h dX7_which_22
  have B127 : ∀ (s0 : Int32) (z : hp_S) (H : Heap) (locs : List Loc) (ls : Array Slot), f_X7_which_B127 fu a0 x1 x2 x3 s0 z = some (rq, zq) → hp_P G z H → va_S (hp_A G) s.heap H locs → lv_has ls 6 [(0, .ref a0), (1, .int x1), (2, .int x2), (3, .int x3)] → W p l e (hp_rm 3 64 0 0) s m [.ref a0, .int x1, .int x2, .int x3].toArray below meth c H locs 0 0 (MQ below (hp_Qi G rq zq) [.ref a0, .int x1, .int x2, .int x3].toArray s 0 0 (hp_A G)) (F0 m 127 ls [.int s0]) := by
    intro s0 z H locs ls h hP hS hl
    unfold f_X7_which_B127 at h
    exact hw_iret X hP hS hr hlocks h dX7_which_127
  have B122 : ∀ (z : hp_S) (H : Heap) (locs : List Loc) (ls : Array Slot), f_X7_which_B122 fu a0 x1 x2 x3 z = some (rq, zq) → hp_P G z H → va_S (hp_A G) s.heap H locs → lv_has ls 6 [(0, .ref a0), (1, .int x1), (2, .int x2), (3, .int x3)] → W p l e (hp_rm 3 64 0 0) s m [.ref a0, .int x1, .int x2, .int x3].toArray below meth c H locs 0 0 (MQ below (hp_Qi G rq zq) [.ref a0, .int x1, .int x2, .int x3].toArray s 0 0 (hp_A G)) (F0 m 122 ls []) := by
    intro z H locs ls h hP hS hl
    unfold f_X7_which_B122 at h
    refine lv_iconst (v := 3) hx hb dX7_which_122 (by decide) ?_
    refine lv_goto (tgt := 127) hx hb dX7_which_123 (by decide) ?_
    exact B127 3 z _ _ _ h hP hS (lv_sub hl [0, 1, 2, 3] rfl)
  have B96 : ∀ (w5 : Int32) (z : hp_S) (H : Heap) (locs : List Loc) (ls : Array Slot), f_X7_which_B96 fu a0 x1 x2 x3 w5 z = some (rq, zq) → hp_P G z H → va_S (hp_A G) s.heap H locs → lv_has ls 6 [(0, .ref a0), (1, .int x1), (2, .int x2), (3, .int x3), (5, .int w5)] → W p l e (hp_rm 3 64 0 0) s m [.ref a0, .int x1, .int x2, .int x3].toArray below meth c H locs 0 0 (MQ below (hp_Qi G rq zq) [.ref a0, .int x1, .int x2, .int x3].toArray s 0 0 (hp_A G)) (F0 m 96 ls []) := by
    intro w5 z H locs ls h hP hS hl
    unfold f_X7_which_B96 at h
    refine lv_iload hx hb dX7_which_96 (lv_at hl 4 rfl) ?_
    refine lv_iconst (v := 1) hx hb dX7_which_98 (by decide) ?_
    refine lv_icmp_eq (tgt := 122) hx hb dX7_which_99 (by decide) (fun hc => ?_) (fun hc => ?_)
    · replace h := ho_ip hc h
      exact B122 z _ _ _ h hP hS (lv_sub hl [0, 1, 2, 3] rfl)
    · replace h := ho_in hc h
      refine lv_iload hx hb dX7_which_102 (lv_at hl 4 rfl) ?_
      refine lv_iconst (v := 2) hx hb dX7_which_104 (by decide) ?_
      refine lv_icmp_eq (tgt := 122) hx hb dX7_which_105 (by decide) (fun hc => ?_) (fun hc => ?_)
      · replace h := ho_ip hc h
        exact B122 z _ _ _ h hP hS (lv_sub hl [0, 1, 2, 3] rfl)
      · replace h := ho_in hc h
        refine lv_iload hx hb dX7_which_108 (lv_at hl 4 rfl) ?_
        refine lv_bipush (v := 6) hx hb dX7_which_110 (by decide) ?_
        refine lv_icmp_eq (tgt := 122) hx hb dX7_which_112 (by decide) (fun hc => ?_) (fun hc => ?_)
        · replace h := ho_ip hc h
          exact B122 z _ _ _ h hP hS (lv_sub hl [0, 1, 2, 3] rfl)
        · replace h := ho_in hc h
          refine lv_iload hx hb dX7_which_115 (lv_at hl 4 rfl) ?_
          refine lv_bipush (v := 9) hx hb dX7_which_117 (by decide) ?_
          refine lv_icmp_le (tgt := 126) hx hb dX7_which_119 (by decide) (fun hc => ?_) (fun hc => ?_)
          · replace h := ho_ip hc h
            refine lv_iconst (v := 0) hx hb dX7_which_126 (by decide) ?_
            exact B127 0 z _ _ _ h hP hS (lv_sub hl [0, 1, 2, 3] rfl)
          · replace h := ho_in hc h
            exact B122 z _ _ _ h hP hS (lv_sub hl [0, 1, 2, 3] rfl)
  have B81 : ∀ (w4 : Int32) (w5 : Int32) (z : hp_S) (H : Heap) (locs : List Loc) (ls : Array Slot), f_X7_which_B81 fu a0 x1 x2 x3 w4 w5 z = some (rq, zq) → hp_P G z H → va_S (hp_A G) s.heap H locs → lv_has ls 6 [(0, .ref a0), (1, .int x1), (2, .int x2), (3, .int x3), (4, .int w4), (5, .int w5)] → W p l e (hp_rm 3 64 0 0) s m [.ref a0, .int x1, .int x2, .int x3].toArray below meth c H locs 0 0 (MQ below (hp_Qi G rq zq) [.ref a0, .int x1, .int x2, .int x3].toArray s 0 0 (hp_A G)) (F0 m 81 ls []) := by
    intro w4 w5 z H locs ls h hP hS hl
    unfold f_X7_which_B81 at h
    refine lv_iload hx hb dX7_which_81 (lv_at hl 4 rfl) ?_
    refine lv_iconst (v := 4) hx hb dX7_which_83 (by decide) ?_
    refine lv_icmp_ne (tgt := 96) hx hb dX7_which_84 (by decide) (fun hc => ?_) (fun hc => ?_)
    · replace h := ho_in hc h
      exact B96 w5 z _ _ _ h hP hS (lv_sub hl [0, 1, 2, 3, 5] rfl)
    · replace h := ho_ip hc h
      refine lv_iload hx hb dX7_which_87 (lv_at hl 5 rfl) ?_
      refine lv_bipush (v := 7) hx hb dX7_which_89 (by decide) ?_
      refine lv_icmp_ne (tgt := 96) hx hb dX7_which_91 (by decide) (fun hc => ?_) (fun hc => ?_)
      · replace h := ho_in hc h
        exact B96 w5 z _ _ _ h hP hS (lv_sub hl [0, 1, 2, 3, 5] rfl)
      · replace h := ho_ip hc h
        refine lv_iconst (v := 2) hx hb dX7_which_94 (by decide) ?_
        exact hw_iret X hP hS hr hlocks h dX7_which_95
  unfold f_X7_which at h
  refine lv_aload_n hx hb dX7_which_0 rfl (lv_at hl 0 rfl) ?_
  refine lv_iload_n hx hb dX7_which_1 rfl (lv_at hl 1 rfl) ?_
  refine lv_iload_n hx hb dX7_which_2 rfl (lv_at hl 3 rfl) ?_
  obtain ⟨_, hs, h⟩ := ho_bd h
  obtain ⟨⟨v1, z⟩, q, h⟩ := ho_bd h
  refine hw_ci hS (hp_runV (As := [.int x1, .int x3]) (rest := []) X hP hS hl.1 LX7 (ho_is_s hs) kX7_110 ⟨m4_21, mp_29⟩ (c_X7_at l G fu a0 x1 x3 _ _ _ q) rfl (Nat.le_of_ble_eq_true rfl) ⟨⟨Nat.le_of_ble_eq_true rfl, Nat.le_of_ble_eq_true rfl⟩, Nat.le_of_ble_eq_true rfl, Nat.le_of_ble_eq_true rfl⟩ dX7_which_3) (fun H locs hP hS => ?_)
  refine lv_iconst (v := (-1)) hx hb dX7_which_6 (by decide) ?_
  refine lv_icmp_eq (tgt := 20) hx hb dX7_which_7 (by decide) (fun hc => ?_) (fun hc => ?_)
  · replace h := ho_ip hc h
    exact B20 z _ _ _ h hP hS (lv_sub hl [0, 1, 2, 3] rfl)
  · replace h := ho_in hc h
    refine lv_aload_n hx hb dX7_which_10 rfl (lv_at hl 0 rfl) ?_
    refine lv_iload_n hx hb dX7_which_11 rfl (lv_at hl 2 rfl) ?_
    refine lv_iload_n hx hb dX7_which_12 rfl (lv_at hl 3 rfl) ?_
    obtain ⟨_, hs, h⟩ := ho_bd h
    obtain ⟨⟨v2, z⟩, q, h⟩ := ho_bd h
    refine hw_ci hS (hp_runV (As := [.int x2, .int x3]) (rest := []) X hP hS hl.1 LX7 (ho_is_s hs) kX7_110 ⟨m4_21, mp_29⟩ (c_X7_at l G fu a0 x2 x3 _ _ _ q) rfl (Nat.le_of_ble_eq_true rfl) ⟨⟨Nat.le_of_ble_eq_true rfl, Nat.le_of_ble_eq_true rfl⟩, Nat.le_of_ble_eq_true rfl, Nat.le_of_ble_eq_true rfl⟩ dX7_which_13) (fun H locs hP hS => ?_)
    refine lv_iconst (v := (-1)) hx hb dX7_which_16 (by decide) ?_
    refine lv_icmp_ne (tgt := 23) hx hb dX7_which_17 (by decide) (fun hc => ?_) (fun hc => ?_)
    · replace h := ho_in hc h
      refine lv_aload_n hx hb dX7_which_23 rfl (lv_at hl 0 rfl) ?_
      obtain ⟨r3, q, h⟩ := ho_bd h
      refine hw_gr X hP LX7 fX7_16 rfl q dX7_which_24 ?_
      refine lv_aload_n hx hb dX7_which_27 rfl (lv_at hl 0 rfl) ?_
      refine lv_iload_n hx hb dX7_which_28 rfl (lv_at hl 2 rfl) ?_
      refine lv_iload_n hx hb dX7_which_29 rfl (lv_at hl 3 rfl) ?_
      obtain ⟨_, hs, h⟩ := ho_bd h
      obtain ⟨⟨v4, z⟩, q, h⟩ := ho_bd h
      refine hw_ci hS (hp_runV (As := [.int x2, .int x3]) (rest := [.ref r3]) X hP hS hl.1 LX7 (ho_is_s hs) kX7_110 ⟨m4_21, mp_29⟩ (c_X7_at l G fu a0 x2 x3 _ _ _ q) rfl (Nat.le_of_ble_eq_true rfl) ⟨⟨Nat.le_of_ble_eq_true rfl, Nat.le_of_ble_eq_true rfl⟩, Nat.le_of_ble_eq_true rfl, Nat.le_of_ble_eq_true rfl⟩ dX7_which_30) (fun H locs hP hS => ?_)
      obtain ⟨v5, q, h⟩ := ho_bd h
      refine hw_li X hP q dX7_which_33 ?_
      refine lv_aload_n hx hb dX7_which_34 rfl (lv_at hl 0 rfl) ?_
      obtain ⟨r6, q, h⟩ := ho_bd h
      refine hw_gr X hP LX7 fX7_16 rfl q dX7_which_35 ?_
      refine lv_aload_n hx hb dX7_which_38 rfl (lv_at hl 0 rfl) ?_
      refine lv_iload_n hx hb dX7_which_39 rfl (lv_at hl 1 rfl) ?_
      refine lv_iload_n hx hb dX7_which_40 rfl (lv_at hl 3 rfl) ?_
      obtain ⟨_, hs, h⟩ := ho_bd h
      obtain ⟨⟨v7, z⟩, q, h⟩ := ho_bd h
      refine hw_ci hS (hp_runV (As := [.int x1, .int x3]) (rest := [.ref r6, .int v5]) X hP hS hl.1 LX7 (ho_is_s hs) kX7_110 ⟨m4_21, mp_29⟩ (c_X7_at l G fu a0 x1 x3 _ _ _ q) rfl (Nat.le_of_ble_eq_true rfl) ⟨⟨Nat.le_of_ble_eq_true rfl, Nat.le_of_ble_eq_true rfl⟩, Nat.le_of_ble_eq_true rfl, Nat.le_of_ble_eq_true rfl⟩ dX7_which_41) (fun H locs hP hS => ?_)
      obtain ⟨v8, q, h⟩ := ho_bd h
      refine hw_li X hP q dX7_which_44 ?_
      refine lv_isub hx hb dX7_which_45 ?_
      refine lv_bipush (v := 7) hx hb dX7_which_46 (by decide) ?_
      refine lv_iconst (v := 0) hx hb dX7_which_48 (by decide) ?_
      obtain ⟨⟨v9, z⟩, q, h⟩ := ho_bd h
      refine hw_ci hS (hp_runS (As := [.int (v5 - v8), .int 7, .int 0]) (rest := []) X hP hS hl.1 kX7_114 m4_32 (c_X7_modulo l G fu (v5 - v8) 7 0 _ _ _ q) rfl (Nat.le_of_ble_eq_true rfl) ⟨⟨Nat.le_of_ble_eq_true rfl, Nat.le_of_ble_eq_true rfl⟩, Nat.le_of_ble_eq_true rfl, Nat.le_of_ble_eq_true rfl⟩ dX7_which_49) (fun H locs hP hS => ?_)
      refine lv_istore (lv' := [(4, .int v9), (0, .ref a0), (1, .int x1), (2, .int x2), (3, .int x3)]) hx hb dX7_which_52 hl (by decide) rfl (fun ls hl => ?_)
      refine lv_aload_n hx hb dX7_which_54 rfl (lv_at hl 1 rfl) ?_
      refine lv_iload_n hx hb dX7_which_55 rfl (lv_at hl 2 rfl) ?_
      refine lv_iload_n hx hb dX7_which_56 rfl (lv_at hl 3 rfl) ?_
      refine lv_iload_n hx hb dX7_which_57 rfl (lv_at hl 4 rfl) ?_
      obtain ⟨_, hs, h⟩ := ho_bd h
      obtain ⟨⟨v10, z⟩, q, h⟩ := ho_bd h
      refine hw_ci hS (hp_runV (As := [.int x1, .int x2, .int x3]) (rest := []) X hP hS hl.1 LX7 (ho_is_s hs) kX7_118 ⟨m4_25, mp_30⟩ (c_X7_betweenHeights l G fu a0 x1 x2 x3 _ _ _ q) rfl (Nat.le_of_ble_eq_true rfl) ⟨⟨Nat.le_of_ble_eq_true rfl, Nat.le_of_ble_eq_true rfl⟩, Nat.le_of_ble_eq_true rfl, Nat.le_of_ble_eq_true rfl⟩ dX7_which_58) (fun H locs hP hS => ?_)
      refine lv_bipush (v := 12) hx hb dX7_which_61 (by decide) ?_
      refine lv_iconst (v := 0) hx hb dX7_which_63 (by decide) ?_
      obtain ⟨⟨v11, z⟩, q, h⟩ := ho_bd h
      refine hw_ci hS (hp_runS (As := [.int v10, .int 12, .int 0]) (rest := []) X hP hS hl.1 kX7_114 m4_32 (c_X7_modulo l G fu v10 12 0 _ _ _ q) rfl (Nat.le_of_ble_eq_true rfl) ⟨⟨Nat.le_of_ble_eq_true rfl, Nat.le_of_ble_eq_true rfl⟩, Nat.le_of_ble_eq_true rfl, Nat.le_of_ble_eq_true rfl⟩ dX7_which_64) (fun H locs hP hS => ?_)
      refine lv_istore (lv' := [(5, .int v11), (4, .int v9), (0, .ref a0), (1, .int x1), (2, .int x2), (3, .int x3)]) hx hb dX7_which_67 hl (by decide) rfl (fun ls hl => ?_)
      refine lv_iload hx hb dX7_which_69 (lv_at hl 1 rfl) ?_
      refine lv_if_ne (tgt := 81) hx hb dX7_which_71 (by decide) (fun hc => ?_) (fun hc => ?_)
      · replace h := ho_in hc h
        exact B81 v9 v11 z _ _ _ h hP hS (lv_sub hl [2, 3, 4, 5, 1, 0] rfl)
      · replace h := ho_ip hc h
        refine lv_iload hx hb dX7_which_74 (lv_at hl 0 rfl) ?_
        refine lv_if_ne (tgt := 81) hx hb dX7_which_76 (by decide) (fun hc => ?_) (fun hc => ?_)
        · replace h := ho_in hc h
          exact B81 v9 v11 z _ _ _ h hP hS (lv_sub hl [2, 3, 4, 5, 1, 0] rfl)
        · replace h := ho_ip hc h
          refine lv_iconst (v := 1) hx hb dX7_which_79 (by decide) ?_
          exact hw_iret X hP hS hr hlocks h dX7_which_80
    · replace h := ho_ip hc h
      exact B20 z _ _ _ h hP hS (lv_sub hl [0, 1, 2, 3] rfl)
def f_X7_isPure_B15 (fu : Nat) (a0 : Nat) (x1 : Int32) (s0 : Int32) (z : hp_S) : Option (Int32 × hp_S) :=
  if vp_nar .boolean s0 = s0 then some (s0, z) else none
def f_X7_isPure_B10 (fu : Nat) (a0 : Nat) (x1 : Int32) (z : hp_S) : Option (Int32 × hp_S) :=
  f_X7_isPure_B15 fu a0 x1 1 z
def f_X7_isPure (fu : Nat) (a0 : Nat) (x1 : Int32) (z : hp_S) : Option (Int32 × hp_S) :=
  if x1 = 1 then (
    f_X7_isPure_B10 fu a0 x1  z
  ) else (
    if x1 = 2 then (
      f_X7_isPure_B10 fu a0 x1  z
    ) else (
      f_X7_isPure_B15 fu a0 x1 0 z
    )
  )
set_option maxHeartbeats 4000000 in
set_option maxRecDepth 100000 in
theorem c_X7_isPure (l : Launch) (G : hp_G) (fu : Nat) (a0 : Nat) (x1 : Int32) (z : hp_S) (rq : Int32) (zq : hp_S) (h : f_X7_isPure fu a0 x1 z = some (rq, zq)) : hp_M l G yX7_isPure cX7_isPure 2 (some .boolean) 0 0 0 0 [.ref a0, .int x1] z (hp_Qi G rq zq) := by
  refine hp_M.of (by decide) (Nat.le_of_ble_eq_true rfl) ?_
  intro p e s m below meth c X hr hlocks hnm hP hS ls hl
  have X : hp_C G cX7_isPure RX7 2 p s m c := X
  have hl : lv_has ls 2 [(0, .ref a0), (1, .int x1)] := hl
  have hx := X.1
  have hb := X.2.1
  have B15 : ∀ (s0 : Int32) (z : hp_S) (H : Heap) (locs : List Loc) (ls : Array Slot), f_X7_isPure_B15 fu a0 x1 s0 z = some (rq, zq) → hp_P G z H → va_S (hp_A G) s.heap H locs → lv_has ls 2 [(0, .ref a0), (1, .int x1)] → W p l e (hp_rm 0 0 0 0) s m [.ref a0, .int x1].toArray below meth c H locs 0 0 (MQ below (hp_Qi G rq zq) [.ref a0, .int x1].toArray s 0 0 (hp_A G)) (F0 m 15 ls [.int s0]) := by
    intro s0 z H locs ls h hP hS hl
    unfold f_X7_isPure_B15 at h
    exact hw_zret X hP hS hr hlocks h dX7_isPure_15
  have B10 : ∀ (z : hp_S) (H : Heap) (locs : List Loc) (ls : Array Slot), f_X7_isPure_B10 fu a0 x1 z = some (rq, zq) → hp_P G z H → va_S (hp_A G) s.heap H locs → lv_has ls 2 [(0, .ref a0), (1, .int x1)] → W p l e (hp_rm 0 0 0 0) s m [.ref a0, .int x1].toArray below meth c H locs 0 0 (MQ below (hp_Qi G rq zq) [.ref a0, .int x1].toArray s 0 0 (hp_A G)) (F0 m 10 ls []) := by
    intro z H locs ls h hP hS hl
    unfold f_X7_isPure_B10 at h
    refine lv_iconst (v := 1) hx hb dX7_isPure_10 (by decide) ?_
    refine lv_goto (tgt := 15) hx hb dX7_isPure_11 (by decide) ?_
    exact B15 1 z _ _ _ h hP hS (lv_sub hl [0, 1] rfl)
  unfold f_X7_isPure at h
  refine lv_iload_n hx hb dX7_isPure_0 rfl (lv_at hl 1 rfl) ?_
  refine lv_iconst (v := 1) hx hb dX7_isPure_1 (by decide) ?_
  refine lv_icmp_eq (tgt := 10) hx hb dX7_isPure_2 (by decide) (fun hc => ?_) (fun hc => ?_)
  · replace h := ho_ip hc h
    exact B10 z _ _ _ h hP hS (lv_sub hl [0, 1] rfl)
  · replace h := ho_in hc h
    refine lv_iload_n hx hb dX7_isPure_5 rfl (lv_at hl 1 rfl) ?_
    refine lv_iconst (v := 2) hx hb dX7_isPure_6 (by decide) ?_
    refine lv_icmp_ne (tgt := 14) hx hb dX7_isPure_7 (by decide) (fun hc => ?_) (fun hc => ?_)
    · replace h := ho_in hc h
      refine lv_iconst (v := 0) hx hb dX7_isPure_14 (by decide) ?_
      exact B15 0 z _ _ _ h hP hS (lv_sub hl [0, 1] rfl)
    · replace h := ho_ip hc h
      exact B10 z _ _ _ h hP hS (lv_sub hl [0, 1] rfl)
def f_X7_leaps_B117 (fu : Nat) (a0 : Nat) (x1 : Int32) (x2 : Int32) (x3 : Int32) (z : hp_S) : Option (Int32 × hp_S) :=
  if vp_nar .boolean 1 = 1 then some (1, z) else none
def f_X7_leaps_B186 (fu : Nat) (a0 : Nat) (x1 : Int32) (x2 : Int32) (x3 : Int32) (s0 : Int32) (z : hp_S) : Option (Int32 × hp_S) :=
  if vp_nar .boolean s0 = s0 then some (s0, z) else none
def f_X7_leaps_B202 (fu : Nat) (a0 : Nat) (x1 : Int32) (x2 : Int32) (x3 : Int32) (s0 : Int32) (z : hp_S) : Option (Int32 × hp_S) :=
  if vp_nar .boolean s0 = s0 then some (s0, z) else none
def f_X7_leaps_B218 (fu : Nat) (a0 : Nat) (x1 : Int32) (x2 : Int32) (x3 : Int32) (s0 : Int32) (z : hp_S) : Option (Int32 × hp_S) :=
  if vp_nar .boolean s0 = s0 then some (s0, z) else none
def f_X7_leaps_B230 (fu : Nat) (a0 : Nat) (x1 : Int32) (x2 : Int32) (x3 : Int32) (s0 : Int32) (z : hp_S) : Option (Int32 × hp_S) :=
  if vp_nar .boolean s0 = s0 then some (s0, z) else none
def f_X7_leaps_B243 (fu : Nat) (a0 : Nat) (x1 : Int32) (x2 : Int32) (x3 : Int32) (s0 : Int32) (z : hp_S) : Option (Int32 × hp_S) :=
  if vp_nar .boolean s0 = s0 then some (s0, z) else none
def f_X7_leaps_B261 (fu : Nat) (a0 : Nat) (x1 : Int32) (x2 : Int32) (x3 : Int32) (s0 : Int32) (z : hp_S) : Option (Int32 × hp_S) :=
  if vp_nar .boolean s0 = s0 then some (s0, z) else none
def f_X7_leaps_B279 (fu : Nat) (a0 : Nat) (x1 : Int32) (x2 : Int32) (x3 : Int32) (s0 : Int32) (z : hp_S) : Option (Int32 × hp_S) :=
  if vp_nar .boolean s0 = s0 then some (s0, z) else none
def f_X7_leaps_B57 (fu : Nat) (a0 : Nat) (x1 : Int32) (x2 : Int32) (x3 : Int32) (w4 : Int32) (w5 : Int32) (z : hp_S) : Option (Int32 × hp_S) :=
  (ho_gr 7 a0 3 z).bind fun r8 =>
  (ho_li 1 r8 w5 z).bind fun v9 =>
  (ho_gr 7 a0 3 z).bind fun r10 =>
  (ho_li 1 r10 w4 z).bind fun v11 =>
  (ho_id (v9 - v11)).bind fun v12 =>
  (ho_is 7 a0 z).bind fun _ =>
  (f_X7_heightOf fu a0 w5 z).bind fun ⟨v13, z⟩ =>
  (ho_is 7 a0 z).bind fun _ =>
  (f_X7_heightOf fu a0 w4 z).bind fun ⟨v14, z⟩ =>
  (ho_id (v13 - v14)).bind fun v15 =>
  if 12 < v15 then (
    f_X7_leaps_B117 fu a0 x1 x2 x3  z
  ) else (
    if v15 = 6 then (
      f_X7_leaps_B117 fu a0 x1 x2 x3  z
    ) else (
      if v15 = 10 then (
        f_X7_leaps_B117 fu a0 x1 x2 x3  z
      ) else (
        if v15 = 11 then (
          f_X7_leaps_B117 fu a0 x1 x2 x3  z
        ) else (
          (ho_dv v12 7).bind fun v16 =>
          (ho_id (v15 - (12 * v16))).bind fun v17 =>
          (ho_rm v12 7).bind fun v18 =>
          if v18 = 0 then (
            if v17 = 0 then (
              f_X7_leaps_B186 fu a0 x1 x2 x3 0 z
            ) else (
              f_X7_leaps_B186 fu a0 x1 x2 x3 1 z
            )
          ) else (
          if v18 = 1 then (
            (f_X7_isIn fu v17 1 2 z).bind fun ⟨v19, z⟩ =>
            if v19 = 0 then (
              f_X7_leaps_B202 fu a0 x1 x2 x3 1 z
            ) else (
              f_X7_leaps_B202 fu a0 x1 x2 x3 0 z
            )
          ) else (
          if v18 = 2 then (
            (f_X7_isIn fu v17 3 4 z).bind fun ⟨v20, z⟩ =>
            if v20 = 0 then (
              f_X7_leaps_B218 fu a0 x1 x2 x3 1 z
            ) else (
              f_X7_leaps_B218 fu a0 x1 x2 x3 0 z
            )
          ) else (
          if v18 = 3 then (
            if v17 = 5 then (
              f_X7_leaps_B230 fu a0 x1 x2 x3 0 z
            ) else (
              f_X7_leaps_B230 fu a0 x1 x2 x3 1 z
            )
          ) else (
          if v18 = 4 then (
            if v17 = 7 then (
              f_X7_leaps_B243 fu a0 x1 x2 x3 0 z
            ) else (
              f_X7_leaps_B243 fu a0 x1 x2 x3 1 z
            )
          ) else (
          if v18 = 5 then (
            (f_X7_isIn fu v17 8 9 z).bind fun ⟨v21, z⟩ =>
            if v21 = 0 then (
              f_X7_leaps_B261 fu a0 x1 x2 x3 1 z
            ) else (
              f_X7_leaps_B261 fu a0 x1 x2 x3 0 z
            )
          ) else (
            (f_X7_isIn fu v17 10 11 z).bind fun ⟨v22, z⟩ =>
            if v22 = 0 then (
              f_X7_leaps_B279 fu a0 x1 x2 x3 1 z
            ) else (
              f_X7_leaps_B279 fu a0 x1 x2 x3 0 z
            )
          ))))))
        )
      )
    )
  )
def f_X7_leaps (fu : Nat) (a0 : Nat) (x1 : Int32) (x2 : Int32) (x3 : Int32) (z : hp_S) : Option (Int32 × hp_S) :=
  (ho_is 7 a0 z).bind fun _ =>
  (f_X7_moves fu a0 x1 x2 x3 z).bind fun ⟨v1, z⟩ =>
  if v1 = 0 then (
    if vp_nar .boolean 0 = 0 then some (0, z) else none
  ) else (
    (ho_is 7 a0 z).bind fun _ =>
    (f_X7_at fu a0 x1 x2 z).bind fun ⟨v2, z⟩ =>
    (ho_is 7 a0 z).bind fun _ =>
    (f_X7_at fu a0 x1 x3 z).bind fun ⟨v3, z⟩ =>
    (ho_gr 7 a0 3 z).bind fun r4 =>
    (ho_li 1 r4 v2 z).bind fun v5 =>
    (ho_gr 7 a0 3 z).bind fun r6 =>
    (ho_li 1 r6 v3 z).bind fun v7 =>
    if v5 ≤ v7 then (
      f_X7_leaps_B57 fu a0 x1 x2 x3 v2 v3 z
    ) else (
      f_X7_leaps_B57 fu a0 x1 x2 x3 v3 v2 z
    )
  )
set_option maxHeartbeats 4000000 in
set_option maxRecDepth 100000 in
theorem c_X7_leaps (l : Launch) (G : hp_G) (fu : Nat) (a0 : Nat) (x1 : Int32) (x2 : Int32) (x3 : Int32) (z : hp_S) (rq : Int32) (zq : hp_S) (h : f_X7_leaps fu a0 x1 x2 x3 z = some (rq, zq)) : hp_M l G yX7_leaps cX7_leaps 9 (some .boolean) 3 68 0 0 [.ref a0, .int x1, .int x2, .int x3] z (hp_Qi G rq zq) := by
  refine hp_M.of (by decide) (Nat.le_of_ble_eq_true rfl) ?_
  intro p e s m below meth c X hr hlocks hnm hP hS ls hl
  have X : hp_C G cX7_leaps RX7 9 p s m c := X
  have hl : lv_has ls 9 [(0, .ref a0), (1, .int x1), (2, .int x2), (3, .int x3)] := hl
  have hx := X.1
  have hb := X.2.1
  have B117 : ∀ (z : hp_S) (H : Heap) (locs : List Loc) (ls : Array Slot), f_X7_leaps_B117 fu a0 x1 x2 x3 z = some (rq, zq) → hp_P G z H → va_S (hp_A G) s.heap H locs → lv_has ls 9 [(0, .ref a0), (1, .int x1), (2, .int x2), (3, .int x3)] → W p l e (hp_rm 3 68 0 0) s m [.ref a0, .int x1, .int x2, .int x3].toArray below meth c H locs 0 0 (MQ below (hp_Qi G rq zq) [.ref a0, .int x1, .int x2, .int x3].toArray s 0 0 (hp_A G)) (F0 m 117 ls []) := by
    intro z H locs ls h hP hS hl
    unfold f_X7_leaps_B117 at h
    refine lv_iconst (v := 1) hx hb dX7_leaps_117 (by decide) ?_
    exact hw_zret X hP hS hr hlocks h dX7_leaps_118
  have B186 : ∀ (s0 : Int32) (z : hp_S) (H : Heap) (locs : List Loc) (ls : Array Slot), f_X7_leaps_B186 fu a0 x1 x2 x3 s0 z = some (rq, zq) → hp_P G z H → va_S (hp_A G) s.heap H locs → lv_has ls 9 [(0, .ref a0), (1, .int x1), (2, .int x2), (3, .int x3)] → W p l e (hp_rm 3 68 0 0) s m [.ref a0, .int x1, .int x2, .int x3].toArray below meth c H locs 0 0 (MQ below (hp_Qi G rq zq) [.ref a0, .int x1, .int x2, .int x3].toArray s 0 0 (hp_A G)) (F0 m 186 ls [.int s0]) := by
    intro s0 z H locs ls h hP hS hl
    unfold f_X7_leaps_B186 at h
    exact hw_zret X hP hS hr hlocks h dX7_leaps_186
  have B202 : ∀ (s0 : Int32) (z : hp_S) (H : Heap) (locs : List Loc) (ls : Array Slot), f_X7_leaps_B202 fu a0 x1 x2 x3 s0 z = some (rq, zq) → hp_P G z H → va_S (hp_A G) s.heap H locs → lv_has ls 9 [(0, .ref a0), (1, .int x1), (2, .int x2), (3, .int x3)] → W p l e (hp_rm 3 68 0 0) s m [.ref a0, .int x1, .int x2, .int x3].toArray below meth c H locs 0 0 (MQ below (hp_Qi G rq zq) [.ref a0, .int x1, .int x2, .int x3].toArray s 0 0 (hp_A G)) (F0 m 202 ls [.int s0]) := by
    intro s0 z H locs ls h hP hS hl
    unfold f_X7_leaps_B202 at h
    exact hw_zret X hP hS hr hlocks h dX7_leaps_202
  have B218 : ∀ (s0 : Int32) (z : hp_S) (H : Heap) (locs : List Loc) (ls : Array Slot), f_X7_leaps_B218 fu a0 x1 x2 x3 s0 z = some (rq, zq) → hp_P G z H → va_S (hp_A G) s.heap H locs → lv_has ls 9 [(0, .ref a0), (1, .int x1), (2, .int x2), (3, .int x3)] → W p l e (hp_rm 3 68 0 0) s m [.ref a0, .int x1, .int x2, .int x3].toArray below meth c H locs 0 0 (MQ below (hp_Qi G rq zq) [.ref a0, .int x1, .int x2, .int x3].toArray s 0 0 (hp_A G)) (F0 m 218 ls [.int s0]) := by
    intro s0 z H locs ls h hP hS hl
    unfold f_X7_leaps_B218 at h
    exact hw_zret X hP hS hr hlocks h dX7_leaps_218
  have B230 : ∀ (s0 : Int32) (z : hp_S) (H : Heap) (locs : List Loc) (ls : Array Slot), f_X7_leaps_B230 fu a0 x1 x2 x3 s0 z = some (rq, zq) → hp_P G z H → va_S (hp_A G) s.heap H locs → lv_has ls 9 [(0, .ref a0), (1, .int x1), (2, .int x2), (3, .int x3)] → W p l e (hp_rm 3 68 0 0) s m [.ref a0, .int x1, .int x2, .int x3].toArray below meth c H locs 0 0 (MQ below (hp_Qi G rq zq) [.ref a0, .int x1, .int x2, .int x3].toArray s 0 0 (hp_A G)) (F0 m 230 ls [.int s0]) := by
    intro s0 z H locs ls h hP hS hl
    unfold f_X7_leaps_B230 at h
    exact hw_zret X hP hS hr hlocks h dX7_leaps_230
  have B243 : ∀ (s0 : Int32) (z : hp_S) (H : Heap) (locs : List Loc) (ls : Array Slot), f_X7_leaps_B243 fu a0 x1 x2 x3 s0 z = some (rq, zq) → hp_P G z H → va_S (hp_A G) s.heap H locs → lv_has ls 9 [(0, .ref a0), (1, .int x1), (2, .int x2), (3, .int x3)] → W p l e (hp_rm 3 68 0 0) s m [.ref a0, .int x1, .int x2, .int x3].toArray below meth c H locs 0 0 (MQ below (hp_Qi G rq zq) [.ref a0, .int x1, .int x2, .int x3].toArray s 0 0 (hp_A G)) (F0 m 243 ls [.int s0]) := by
    intro s0 z H locs ls h hP hS hl
    unfold f_X7_leaps_B243 at h
    exact hw_zret X hP hS hr hlocks h dX7_leaps_243
  have B261 : ∀ (s0 : Int32) (z : hp_S) (H : Heap) (locs : List Loc) (ls : Array Slot), f_X7_leaps_B261 fu a0 x1 x2 x3 s0 z = some (rq, zq) → hp_P G z H → va_S (hp_A G) s.heap H locs → lv_has ls 9 [(0, .ref a0), (1, .int x1), (2, .int x2), (3, .int x3)] → W p l e (hp_rm 3 68 0 0) s m [.ref a0, .int x1, .int x2, .int x3].toArray below meth c H locs 0 0 (MQ below (hp_Qi G rq zq) [.ref a0, .int x1, .int x2, .int x3].toArray s 0 0 (hp_A G)) (F0 m 261 ls [.int s0]) := by
    intro s0 z H locs ls h hP hS hl
    unfold f_X7_leaps_B261 at h
    exact hw_zret X hP hS hr hlocks h dX7_leaps_261
  have B279 : ∀ (s0 : Int32) (z : hp_S) (H : Heap) (locs : List Loc) (ls : Array Slot), f_X7_leaps_B279 fu a0 x1 x2 x3 s0 z = some (rq, zq) → hp_P G z H → va_S (hp_A G) s.heap H locs → lv_has ls 9 [(0, .ref a0), (1, .int x1), (2, .int x2), (3, .int x3)] → W p l e (hp_rm 3 68 0 0) s m [.ref a0, .int x1, .int x2, .int x3].toArray below meth c H locs 0 0 (MQ below (hp_Qi G rq zq) [.ref a0, .int x1, .int x2, .int x3].toArray s 0 0 (hp_A G)) (F0 m 279 ls [.int s0]) := by
    intro s0 z H locs ls h hP hS hl
    unfold f_X7_leaps_B279 at h
    exact hw_zret X hP hS hr hlocks h dX7_leaps_279
  have B57 : ∀ (w4 : Int32) (w5 : Int32) (z : hp_S) (H : Heap) (locs : List Loc) (ls : Array Slot), f_X7_leaps_B57 fu a0 x1 x2 x3 w4 w5 z = some (rq, zq) → hp_P G z H → va_S (hp_A G) s.heap H locs → lv_has ls 9 [(0, .ref a0), (1, .int x1), (2, .int x2), (3, .int x3), (4, .int w4), (5, .int w5)] → W p l e (hp_rm 3 68 0 0) s m [.ref a0, .int x1, .int x2, .int x3].toArray below meth c H locs 0 0 (MQ below (hp_Qi G rq zq) [.ref a0, .int x1, .int x2, .int x3].toArray s 0 0 (hp_A G)) (F0 m 57 ls []) := by
    intro w4 w5 z H locs ls h hP hS hl
    unfold f_X7_leaps_B57 at h
    refine lv_aload_n hx hb dX7_leaps_57 rfl (lv_at hl 0 rfl) ?_
    obtain ⟨r8, q, h⟩ := ho_bd h
    refine hw_gr X hP LX7 fX7_16 rfl q dX7_leaps_58 ?_
    refine lv_iload hx hb dX7_leaps_61 (lv_at hl 5 rfl) ?_
    obtain ⟨v9, q, h⟩ := ho_bd h
    refine hw_li X hP q dX7_leaps_63 ?_
    refine lv_aload_n hx hb dX7_leaps_64 rfl (lv_at hl 0 rfl) ?_
    obtain ⟨r10, q, h⟩ := ho_bd h
    refine hw_gr X hP LX7 fX7_16 rfl q dX7_leaps_65 ?_
    refine lv_iload hx hb dX7_leaps_68 (lv_at hl 4 rfl) ?_
    obtain ⟨v11, q, h⟩ := ho_bd h
    refine hw_li X hP q dX7_leaps_70 ?_
    refine lv_isub hx hb dX7_leaps_71 ?_
    obtain ⟨v12, q, h⟩ := ho_bd h
    refine hw_id q ?_
    refine lv_istore (lv' := [(6, .int v12), (0, .ref a0), (1, .int x1), (2, .int x2), (3, .int x3), (4, .int w4), (5, .int w5)]) hx hb dX7_leaps_72 hl (by decide) rfl (fun ls hl => ?_)
    refine lv_aload_n hx hb dX7_leaps_74 rfl (lv_at hl 1 rfl) ?_
    refine lv_iload hx hb dX7_leaps_75 (lv_at hl 6 rfl) ?_
    obtain ⟨_, hs, h⟩ := ho_bd h
    obtain ⟨⟨v13, z⟩, q, h⟩ := ho_bd h
    refine hw_ci hS (hp_runV (As := [.int w5]) (rest := []) X hP hS hl.1 LX7 (ho_is_s hs) kX7_97 ⟨m3_215, mp_23⟩ (c_X7_heightOf l G fu a0 w5 _ _ _ q) rfl (Nat.le_of_ble_eq_true rfl) ⟨⟨Nat.le_of_ble_eq_true rfl, Nat.le_of_ble_eq_true rfl⟩, Nat.le_of_ble_eq_true rfl, Nat.le_of_ble_eq_true rfl⟩ dX7_leaps_77) (fun H locs hP hS => ?_)
    refine lv_aload_n hx hb dX7_leaps_80 rfl (lv_at hl 1 rfl) ?_
    refine lv_iload hx hb dX7_leaps_81 (lv_at hl 5 rfl) ?_
    obtain ⟨_, hs, h⟩ := ho_bd h
    obtain ⟨⟨v14, z⟩, q, h⟩ := ho_bd h
    refine hw_ci hS (hp_runV (As := [.int w4]) (rest := [.int v13]) X hP hS hl.1 LX7 (ho_is_s hs) kX7_97 ⟨m3_215, mp_23⟩ (c_X7_heightOf l G fu a0 w4 _ _ _ q) rfl (Nat.le_of_ble_eq_true rfl) ⟨⟨Nat.le_of_ble_eq_true rfl, Nat.le_of_ble_eq_true rfl⟩, Nat.le_of_ble_eq_true rfl, Nat.le_of_ble_eq_true rfl⟩ dX7_leaps_83) (fun H locs hP hS => ?_)
    refine lv_isub hx hb dX7_leaps_86 ?_
    obtain ⟨v15, q, h⟩ := ho_bd h
    refine hw_id q ?_
    refine lv_istore (lv' := [(7, .int v15), (6, .int v12), (0, .ref a0), (1, .int x1), (2, .int x2), (3, .int x3), (4, .int w4), (5, .int w5)]) hx hb dX7_leaps_87 hl (by decide) rfl (fun ls hl => ?_)
    refine lv_iload hx hb dX7_leaps_89 (lv_at hl 0 rfl) ?_
    refine lv_bipush (v := 12) hx hb dX7_leaps_91 (by decide) ?_
    refine lv_icmp_gt (tgt := 117) hx hb dX7_leaps_93 (by decide) (fun hc => ?_) (fun hc => ?_)
    · replace h := ho_ip hc h
      exact B117 z _ _ _ h hP hS (lv_sub hl [2, 3, 4, 5] rfl)
    · replace h := ho_in hc h
      refine lv_iload hx hb dX7_leaps_96 (lv_at hl 0 rfl) ?_
      refine lv_bipush (v := 6) hx hb dX7_leaps_98 (by decide) ?_
      refine lv_icmp_eq (tgt := 117) hx hb dX7_leaps_100 (by decide) (fun hc => ?_) (fun hc => ?_)
      · replace h := ho_ip hc h
        exact B117 z _ _ _ h hP hS (lv_sub hl [2, 3, 4, 5] rfl)
      · replace h := ho_in hc h
        refine lv_iload hx hb dX7_leaps_103 (lv_at hl 0 rfl) ?_
        refine lv_bipush (v := 10) hx hb dX7_leaps_105 (by decide) ?_
        refine lv_icmp_eq (tgt := 117) hx hb dX7_leaps_107 (by decide) (fun hc => ?_) (fun hc => ?_)
        · replace h := ho_ip hc h
          exact B117 z _ _ _ h hP hS (lv_sub hl [2, 3, 4, 5] rfl)
        · replace h := ho_in hc h
          refine lv_iload hx hb dX7_leaps_110 (lv_at hl 0 rfl) ?_
          refine lv_bipush (v := 11) hx hb dX7_leaps_112 (by decide) ?_
          refine lv_icmp_ne (tgt := 119) hx hb dX7_leaps_114 (by decide) (fun hc => ?_) (fun hc => ?_)
          · replace h := ho_in hc h
            refine lv_iload hx hb dX7_leaps_119 (lv_at hl 0 rfl) ?_
            refine lv_bipush (v := 12) hx hb dX7_leaps_121 (by decide) ?_
            refine lv_iload hx hb dX7_leaps_123 (lv_at hl 1 rfl) ?_
            refine lv_bipush (v := 7) hx hb dX7_leaps_125 (by decide) ?_
            obtain ⟨v16, q, h⟩ := ho_bd h
            refine hw_dv X q dX7_leaps_127 ?_
            refine lv_imul hx hb dX7_leaps_128 ?_
            refine lv_isub hx hb dX7_leaps_129 ?_
            obtain ⟨v17, q, h⟩ := ho_bd h
            refine hw_id q ?_
            refine lv_istore (lv' := [(8, .int v17), (7, .int v15), (6, .int v12), (0, .ref a0), (1, .int x1), (2, .int x2), (3, .int x3), (4, .int w4), (5, .int w5)]) hx hb dX7_leaps_130 hl (by decide) rfl (fun ls hl => ?_)
            refine lv_iload hx hb dX7_leaps_132 (lv_at hl 2 rfl) ?_
            refine lv_bipush (v := 7) hx hb dX7_leaps_134 (by decide) ?_
            obtain ⟨v18, q, h⟩ := ho_bd h
            refine hw_rm X q dX7_leaps_136 ?_
            by_cases hc0 : v18 = 0
            · replace h := ho_ip hc0 h
              refine lv_tableIn (tgt := 176) hx hb dX7_leaps_137 (by rw [hc0]; decide) (by rw [hc0]; decide) (by rw [hc0]; rfl) (by decide) ?_
              refine lv_iload hx hb dX7_leaps_176 (lv_at hl 0 rfl) ?_
              refine lv_if_eq (tgt := 185) hx hb dX7_leaps_178 (by decide) (fun hc => ?_) (fun hc => ?_)
              · replace h := ho_ip hc h
                refine lv_iconst (v := 0) hx hb dX7_leaps_185 (by decide) ?_
                exact B186 0 z _ _ _ h hP hS (lv_sub hl [3, 4, 5, 6] rfl)
              · replace h := ho_in hc h
                refine lv_iconst (v := 1) hx hb dX7_leaps_181 (by decide) ?_
                refine lv_goto (tgt := 186) hx hb dX7_leaps_182 (by decide) ?_
                exact B186 1 z _ _ _ h hP hS (lv_sub hl [3, 4, 5, 6] rfl)
            replace h := ho_in hc0 h
            by_cases hc1 : v18 = 1
            · replace h := ho_ip hc1 h
              refine lv_tableIn (tgt := 187) hx hb dX7_leaps_137 (by rw [hc1]; decide) (by rw [hc1]; decide) (by rw [hc1]; rfl) (by decide) ?_
              refine lv_iload hx hb dX7_leaps_187 (lv_at hl 0 rfl) ?_
              refine lv_iconst (v := 1) hx hb dX7_leaps_189 (by decide) ?_
              refine lv_iconst (v := 2) hx hb dX7_leaps_190 (by decide) ?_
              obtain ⟨⟨v19, z⟩, q, h⟩ := ho_bd h
              refine hw_ci hS (hp_runS (As := [.int v17, .int 1, .int 2]) (rest := []) X hP hS hl.1 kX7_81 m3_183 (c_X7_isIn l G fu v17 1 2 _ _ _ q) rfl (Nat.le_of_ble_eq_true rfl) ⟨⟨Nat.le_of_ble_eq_true rfl, Nat.le_of_ble_eq_true rfl⟩, Nat.le_of_ble_eq_true rfl, Nat.le_of_ble_eq_true rfl⟩ dX7_leaps_191) (fun H locs hP hS => ?_)
              refine lv_if_ne (tgt := 201) hx hb dX7_leaps_194 (by decide) (fun hc => ?_) (fun hc => ?_)
              · replace h := ho_in hc h
                refine lv_iconst (v := 0) hx hb dX7_leaps_201 (by decide) ?_
                exact B202 0 z _ _ _ h hP hS (lv_sub hl [3, 4, 5, 6] rfl)
              · replace h := ho_ip hc h
                refine lv_iconst (v := 1) hx hb dX7_leaps_197 (by decide) ?_
                refine lv_goto (tgt := 202) hx hb dX7_leaps_198 (by decide) ?_
                exact B202 1 z _ _ _ h hP hS (lv_sub hl [3, 4, 5, 6] rfl)
            replace h := ho_in hc1 h
            by_cases hc2 : v18 = 2
            · replace h := ho_ip hc2 h
              refine lv_tableIn (tgt := 203) hx hb dX7_leaps_137 (by rw [hc2]; decide) (by rw [hc2]; decide) (by rw [hc2]; rfl) (by decide) ?_
              refine lv_iload hx hb dX7_leaps_203 (lv_at hl 0 rfl) ?_
              refine lv_iconst (v := 3) hx hb dX7_leaps_205 (by decide) ?_
              refine lv_iconst (v := 4) hx hb dX7_leaps_206 (by decide) ?_
              obtain ⟨⟨v20, z⟩, q, h⟩ := ho_bd h
              refine hw_ci hS (hp_runS (As := [.int v17, .int 3, .int 4]) (rest := []) X hP hS hl.1 kX7_81 m3_183 (c_X7_isIn l G fu v17 3 4 _ _ _ q) rfl (Nat.le_of_ble_eq_true rfl) ⟨⟨Nat.le_of_ble_eq_true rfl, Nat.le_of_ble_eq_true rfl⟩, Nat.le_of_ble_eq_true rfl, Nat.le_of_ble_eq_true rfl⟩ dX7_leaps_207) (fun H locs hP hS => ?_)
              refine lv_if_ne (tgt := 217) hx hb dX7_leaps_210 (by decide) (fun hc => ?_) (fun hc => ?_)
              · replace h := ho_in hc h
                refine lv_iconst (v := 0) hx hb dX7_leaps_217 (by decide) ?_
                exact B218 0 z _ _ _ h hP hS (lv_sub hl [3, 4, 5, 6] rfl)
              · replace h := ho_ip hc h
                refine lv_iconst (v := 1) hx hb dX7_leaps_213 (by decide) ?_
                refine lv_goto (tgt := 218) hx hb dX7_leaps_214 (by decide) ?_
                exact B218 1 z _ _ _ h hP hS (lv_sub hl [3, 4, 5, 6] rfl)
            replace h := ho_in hc2 h
            by_cases hc3 : v18 = 3
            · replace h := ho_ip hc3 h
              refine lv_tableIn (tgt := 219) hx hb dX7_leaps_137 (by rw [hc3]; decide) (by rw [hc3]; decide) (by rw [hc3]; rfl) (by decide) ?_
              refine lv_iload hx hb dX7_leaps_219 (lv_at hl 0 rfl) ?_
              refine lv_iconst (v := 5) hx hb dX7_leaps_221 (by decide) ?_
              refine lv_icmp_eq (tgt := 229) hx hb dX7_leaps_222 (by decide) (fun hc => ?_) (fun hc => ?_)
              · replace h := ho_ip hc h
                refine lv_iconst (v := 0) hx hb dX7_leaps_229 (by decide) ?_
                exact B230 0 z _ _ _ h hP hS (lv_sub hl [3, 4, 5, 6] rfl)
              · replace h := ho_in hc h
                refine lv_iconst (v := 1) hx hb dX7_leaps_225 (by decide) ?_
                refine lv_goto (tgt := 230) hx hb dX7_leaps_226 (by decide) ?_
                exact B230 1 z _ _ _ h hP hS (lv_sub hl [3, 4, 5, 6] rfl)
            replace h := ho_in hc3 h
            by_cases hc4 : v18 = 4
            · replace h := ho_ip hc4 h
              refine lv_tableIn (tgt := 231) hx hb dX7_leaps_137 (by rw [hc4]; decide) (by rw [hc4]; decide) (by rw [hc4]; rfl) (by decide) ?_
              refine lv_iload hx hb dX7_leaps_231 (lv_at hl 0 rfl) ?_
              refine lv_bipush (v := 7) hx hb dX7_leaps_233 (by decide) ?_
              refine lv_icmp_eq (tgt := 242) hx hb dX7_leaps_235 (by decide) (fun hc => ?_) (fun hc => ?_)
              · replace h := ho_ip hc h
                refine lv_iconst (v := 0) hx hb dX7_leaps_242 (by decide) ?_
                exact B243 0 z _ _ _ h hP hS (lv_sub hl [3, 4, 5, 6] rfl)
              · replace h := ho_in hc h
                refine lv_iconst (v := 1) hx hb dX7_leaps_238 (by decide) ?_
                refine lv_goto (tgt := 243) hx hb dX7_leaps_239 (by decide) ?_
                exact B243 1 z _ _ _ h hP hS (lv_sub hl [3, 4, 5, 6] rfl)
            replace h := ho_in hc4 h
            by_cases hc5 : v18 = 5
            · replace h := ho_ip hc5 h
              refine lv_tableIn (tgt := 244) hx hb dX7_leaps_137 (by rw [hc5]; decide) (by rw [hc5]; decide) (by rw [hc5]; rfl) (by decide) ?_
              refine lv_iload hx hb dX7_leaps_244 (lv_at hl 0 rfl) ?_
              refine lv_bipush (v := 8) hx hb dX7_leaps_246 (by decide) ?_
              refine lv_bipush (v := 9) hx hb dX7_leaps_248 (by decide) ?_
              obtain ⟨⟨v21, z⟩, q, h⟩ := ho_bd h
              refine hw_ci hS (hp_runS (As := [.int v17, .int 8, .int 9]) (rest := []) X hP hS hl.1 kX7_81 m3_183 (c_X7_isIn l G fu v17 8 9 _ _ _ q) rfl (Nat.le_of_ble_eq_true rfl) ⟨⟨Nat.le_of_ble_eq_true rfl, Nat.le_of_ble_eq_true rfl⟩, Nat.le_of_ble_eq_true rfl, Nat.le_of_ble_eq_true rfl⟩ dX7_leaps_250) (fun H locs hP hS => ?_)
              refine lv_if_ne (tgt := 260) hx hb dX7_leaps_253 (by decide) (fun hc => ?_) (fun hc => ?_)
              · replace h := ho_in hc h
                refine lv_iconst (v := 0) hx hb dX7_leaps_260 (by decide) ?_
                exact B261 0 z _ _ _ h hP hS (lv_sub hl [3, 4, 5, 6] rfl)
              · replace h := ho_ip hc h
                refine lv_iconst (v := 1) hx hb dX7_leaps_256 (by decide) ?_
                refine lv_goto (tgt := 261) hx hb dX7_leaps_257 (by decide) ?_
                exact B261 1 z _ _ _ h hP hS (lv_sub hl [3, 4, 5, 6] rfl)
            replace h := ho_in hc5 h
            refine lv_tableOut (tgt := 262) hx hb dX7_leaps_137 (by have u0 := ho_ne (n := 0) 0 rfl hc0; have u1 := ho_ne (n := 1) 1 rfl hc1; have u2 := ho_ne (n := 2) 2 rfl hc2; have u3 := ho_ne (n := 3) 3 rfl hc3; have u4 := ho_ne (n := 4) 4 rfl hc4; have u5 := ho_ne (n := 5) 5 rfl hc5; omega) (by decide) ?_
            refine lv_iload hx hb dX7_leaps_262 (lv_at hl 0 rfl) ?_
            refine lv_bipush (v := 10) hx hb dX7_leaps_264 (by decide) ?_
            refine lv_bipush (v := 11) hx hb dX7_leaps_266 (by decide) ?_
            obtain ⟨⟨v22, z⟩, q, h⟩ := ho_bd h
            refine hw_ci hS (hp_runS (As := [.int v17, .int 10, .int 11]) (rest := []) X hP hS hl.1 kX7_81 m3_183 (c_X7_isIn l G fu v17 10 11 _ _ _ q) rfl (Nat.le_of_ble_eq_true rfl) ⟨⟨Nat.le_of_ble_eq_true rfl, Nat.le_of_ble_eq_true rfl⟩, Nat.le_of_ble_eq_true rfl, Nat.le_of_ble_eq_true rfl⟩ dX7_leaps_268) (fun H locs hP hS => ?_)
            refine lv_if_ne (tgt := 278) hx hb dX7_leaps_271 (by decide) (fun hc => ?_) (fun hc => ?_)
            · replace h := ho_in hc h
              refine lv_iconst (v := 0) hx hb dX7_leaps_278 (by decide) ?_
              exact B279 0 z _ _ _ h hP hS (lv_sub hl [3, 4, 5, 6] rfl)
            · replace h := ho_ip hc h
              refine lv_iconst (v := 1) hx hb dX7_leaps_274 (by decide) ?_
              refine lv_goto (tgt := 279) hx hb dX7_leaps_275 (by decide) ?_
              exact B279 1 z _ _ _ h hP hS (lv_sub hl [3, 4, 5, 6] rfl)
          · replace h := ho_ip hc h
            exact B117 z _ _ _ h hP hS (lv_sub hl [2, 3, 4, 5] rfl)
  unfold f_X7_leaps at h
  refine lv_aload_n hx hb dX7_leaps_0 rfl (lv_at hl 0 rfl) ?_
  refine lv_iload_n hx hb dX7_leaps_1 rfl (lv_at hl 1 rfl) ?_
  refine lv_iload_n hx hb dX7_leaps_2 rfl (lv_at hl 2 rfl) ?_
  refine lv_iload_n hx hb dX7_leaps_3 rfl (lv_at hl 3 rfl) ?_
  obtain ⟨_, hs, h⟩ := ho_bd h
  obtain ⟨⟨v1, z⟩, q, h⟩ := ho_bd h
  refine hw_ci hS (hp_runV (As := [.int x1, .int x2, .int x3]) (rest := []) X hP hS hl.1 LX7 (ho_is_s hs) kX7_124 ⟨m4_48, mp_35⟩ (c_X7_moves l G fu a0 x1 x2 x3 _ _ _ q) rfl (Nat.le_of_ble_eq_true rfl) ⟨⟨Nat.le_of_ble_eq_true rfl, Nat.le_of_ble_eq_true rfl⟩, Nat.le_of_ble_eq_true rfl, Nat.le_of_ble_eq_true rfl⟩ dX7_leaps_4) (fun H locs hP hS => ?_)
  refine lv_if_ne (tgt := 12) hx hb dX7_leaps_7 (by decide) (fun hc => ?_) (fun hc => ?_)
  · replace h := ho_in hc h
    refine lv_aload_n hx hb dX7_leaps_12 rfl (lv_at hl 0 rfl) ?_
    refine lv_iload_n hx hb dX7_leaps_13 rfl (lv_at hl 1 rfl) ?_
    refine lv_iload_n hx hb dX7_leaps_14 rfl (lv_at hl 2 rfl) ?_
    obtain ⟨_, hs, h⟩ := ho_bd h
    obtain ⟨⟨v2, z⟩, q, h⟩ := ho_bd h
    refine hw_ci hS (hp_runV (As := [.int x1, .int x2]) (rest := []) X hP hS hl.1 LX7 (ho_is_s hs) kX7_110 ⟨m4_21, mp_29⟩ (c_X7_at l G fu a0 x1 x2 _ _ _ q) rfl (Nat.le_of_ble_eq_true rfl) ⟨⟨Nat.le_of_ble_eq_true rfl, Nat.le_of_ble_eq_true rfl⟩, Nat.le_of_ble_eq_true rfl, Nat.le_of_ble_eq_true rfl⟩ dX7_leaps_15) (fun H locs hP hS => ?_)
    refine lv_istore (lv' := [(4, .int v2), (0, .ref a0), (1, .int x1), (2, .int x2), (3, .int x3)]) hx hb dX7_leaps_18 hl (by decide) rfl (fun ls hl => ?_)
    refine lv_aload_n hx hb dX7_leaps_20 rfl (lv_at hl 1 rfl) ?_
    refine lv_iload_n hx hb dX7_leaps_21 rfl (lv_at hl 2 rfl) ?_
    refine lv_iload_n hx hb dX7_leaps_22 rfl (lv_at hl 4 rfl) ?_
    obtain ⟨_, hs, h⟩ := ho_bd h
    obtain ⟨⟨v3, z⟩, q, h⟩ := ho_bd h
    refine hw_ci hS (hp_runV (As := [.int x1, .int x3]) (rest := []) X hP hS hl.1 LX7 (ho_is_s hs) kX7_110 ⟨m4_21, mp_29⟩ (c_X7_at l G fu a0 x1 x3 _ _ _ q) rfl (Nat.le_of_ble_eq_true rfl) ⟨⟨Nat.le_of_ble_eq_true rfl, Nat.le_of_ble_eq_true rfl⟩, Nat.le_of_ble_eq_true rfl, Nat.le_of_ble_eq_true rfl⟩ dX7_leaps_23) (fun H locs hP hS => ?_)
    refine lv_istore (lv' := [(5, .int v3), (4, .int v2), (0, .ref a0), (1, .int x1), (2, .int x2), (3, .int x3)]) hx hb dX7_leaps_26 hl (by decide) rfl (fun ls hl => ?_)
    refine lv_aload_n hx hb dX7_leaps_28 rfl (lv_at hl 2 rfl) ?_
    obtain ⟨r4, q, h⟩ := ho_bd h
    refine hw_gr X hP LX7 fX7_16 rfl q dX7_leaps_29 ?_
    refine lv_iload hx hb dX7_leaps_32 (lv_at hl 1 rfl) ?_
    obtain ⟨v5, q, h⟩ := ho_bd h
    refine hw_li X hP q dX7_leaps_34 ?_
    refine lv_aload_n hx hb dX7_leaps_35 rfl (lv_at hl 2 rfl) ?_
    obtain ⟨r6, q, h⟩ := ho_bd h
    refine hw_gr X hP LX7 fX7_16 rfl q dX7_leaps_36 ?_
    refine lv_iload hx hb dX7_leaps_39 (lv_at hl 0 rfl) ?_
    obtain ⟨v7, q, h⟩ := ho_bd h
    refine hw_li X hP q dX7_leaps_41 ?_
    refine lv_icmp_le (tgt := 57) hx hb dX7_leaps_42 (by decide) (fun hc => ?_) (fun hc => ?_)
    · replace h := ho_ip hc h
      exact B57 v2 v3 z _ _ _ h hP hS (lv_sub hl [2, 3, 4, 5, 1, 0] rfl)
    · replace h := ho_in hc h
      refine lv_iload hx hb dX7_leaps_45 (lv_at hl 1 rfl) ?_
      refine lv_istore (lv' := [(6, .int v2), (5, .int v3), (4, .int v2), (0, .ref a0), (1, .int x1), (2, .int x2), (3, .int x3)]) hx hb dX7_leaps_47 hl (by decide) rfl (fun ls hl => ?_)
      refine lv_iload hx hb dX7_leaps_49 (lv_at hl 1 rfl) ?_
      refine lv_istore (lv' := [(4, .int v3), (6, .int v2), (5, .int v3), (0, .ref a0), (1, .int x1), (2, .int x2), (3, .int x3)]) hx hb dX7_leaps_51 hl (by decide) rfl (fun ls hl => ?_)
      refine lv_iload hx hb dX7_leaps_53 (lv_at hl 1 rfl) ?_
      refine lv_istore (lv' := [(5, .int v2), (4, .int v3), (6, .int v2), (0, .ref a0), (1, .int x1), (2, .int x2), (3, .int x3)]) hx hb dX7_leaps_55 hl (by decide) rfl (fun ls hl => ?_)
      exact B57 v3 v2 z _ _ _ h hP hS (lv_sub hl [3, 4, 5, 6, 1, 0] rfl)
  · replace h := ho_ip hc h
    refine lv_iconst (v := 0) hx hb dX7_leaps_10 (by decide) ?_
    exact hw_zret X hP hS hr hlocks h dX7_leaps_11
def f_X7_crosses_B69 (fu : Nat) (a0 : Nat) (x1 : Int32) (x2 : Int32) (x3 : Int32) (x4 : Int32) (z : hp_S) : Option (Int32 × hp_S) :=
  if vp_nar .boolean 0 = 0 then some (0, z) else none
def f_X7_crosses_B131 (fu : Nat) (a0 : Nat) (x1 : Int32) (x2 : Int32) (x3 : Int32) (x4 : Int32) (s0 : Int32) (z : hp_S) : Option (Int32 × hp_S) :=
  if vp_nar .boolean s0 = s0 then some (s0, z) else none
def f_X7_crosses_B126 (fu : Nat) (a0 : Nat) (x1 : Int32) (x2 : Int32) (x3 : Int32) (x4 : Int32) (z : hp_S) : Option (Int32 × hp_S) :=
  f_X7_crosses_B131 fu a0 x1 x2 x3 x4 1 z
def f_X7_crosses (fu : Nat) (a0 : Nat) (x1 : Int32) (x2 : Int32) (x3 : Int32) (x4 : Int32) (z : hp_S) : Option (Int32 × hp_S) :=
  (ho_is 7 a0 z).bind fun _ =>
  (f_X7_at fu a0 x1 x3 z).bind fun ⟨v1, z⟩ =>
  (ho_is 7 a0 z).bind fun _ =>
  (f_X7_at fu a0 x2 x4 z).bind fun ⟨v2, z⟩ =>
  if v1 = (-1) then (
    f_X7_crosses_B69 fu a0 x1 x2 x3 x4  z
  ) else (
    if v2 = (-1) then (
      f_X7_crosses_B69 fu a0 x1 x2 x3 x4  z
    ) else (
      (ho_gr 7 a0 3 z).bind fun r3 =>
      (ho_li 1 r3 v1 z).bind fun v4 =>
      (ho_rm v4 7).bind fun v5 =>
      (ho_gr 7 a0 3 z).bind fun r6 =>
      (ho_li 1 r6 v2 z).bind fun v7 =>
      (ho_rm v7 7).bind fun v8 =>
      if v5 = v8 then (
        (ho_gr 7 a0 4 z).bind fun r9 =>
        (ho_li 1 r9 v1 z).bind fun v10 =>
        (ho_gr 7 a0 4 z).bind fun r11 =>
        (ho_li 1 r11 v2 z).bind fun v12 =>
        if v10 = v12 then (
          f_X7_crosses_B69 fu a0 x1 x2 x3 x4  z
        ) else (
          (ho_is 7 a0 z).bind fun _ =>
          (f_X7_at fu a0 x1 x4 z).bind fun ⟨v13, z⟩ =>
          if v13 = (-1) then (
            f_X7_crosses_B126 fu a0 x1 x2 x3 x4  z
          ) else (
            (ho_gr 7 a0 3 z).bind fun r14 =>
            (ho_li 1 r14 v13 z).bind fun v15 =>
            (ho_rm v15 7).bind fun v16 =>
            (ho_gr 7 a0 3 z).bind fun r17 =>
            (ho_li 1 r17 v2 z).bind fun v18 =>
            (ho_rm v18 7).bind fun v19 =>
            if v16 = v19 then (
              (ho_gr 7 a0 4 z).bind fun r20 =>
              (ho_li 1 r20 v13 z).bind fun v21 =>
              (ho_gr 7 a0 4 z).bind fun r22 =>
              (ho_li 1 r22 v2 z).bind fun v23 =>
              if v21 = v23 then (
                f_X7_crosses_B131 fu a0 x1 x2 x3 x4 0 z
              ) else (
                f_X7_crosses_B126 fu a0 x1 x2 x3 x4  z
              )
            ) else (
              f_X7_crosses_B126 fu a0 x1 x2 x3 x4  z
            )
          )
        )
      ) else (
        f_X7_crosses_B69 fu a0 x1 x2 x3 x4  z
      )
    )
  )
set_option maxHeartbeats 4000000 in
set_option maxRecDepth 100000 in
theorem c_X7_crosses (l : Launch) (G : hp_G) (fu : Nat) (a0 : Nat) (x1 : Int32) (x2 : Int32) (x3 : Int32) (x4 : Int32) (z : hp_S) (rq : Int32) (zq : hp_S) (h : f_X7_crosses fu a0 x1 x2 x3 x4 z = some (rq, zq)) : hp_M l G yX7_crosses cX7_crosses 8 (some .boolean) 1 22 0 0 [.ref a0, .int x1, .int x2, .int x3, .int x4] z (hp_Qi G rq zq) := by
  refine hp_M.of (by decide) (Nat.le_of_ble_eq_true rfl) ?_
  intro p e s m below meth c X hr hlocks hnm hP hS ls hl
  have X : hp_C G cX7_crosses RX7 8 p s m c := X
  have hl : lv_has ls 8 [(0, .ref a0), (1, .int x1), (2, .int x2), (3, .int x3), (4, .int x4)] := hl
  have hx := X.1
  have hb := X.2.1
  have B69 : ∀ (z : hp_S) (H : Heap) (locs : List Loc) (ls : Array Slot), f_X7_crosses_B69 fu a0 x1 x2 x3 x4 z = some (rq, zq) → hp_P G z H → va_S (hp_A G) s.heap H locs → lv_has ls 8 [(0, .ref a0), (1, .int x1), (2, .int x2), (3, .int x3), (4, .int x4)] → W p l e (hp_rm 1 22 0 0) s m [.ref a0, .int x1, .int x2, .int x3, .int x4].toArray below meth c H locs 0 0 (MQ below (hp_Qi G rq zq) [.ref a0, .int x1, .int x2, .int x3, .int x4].toArray s 0 0 (hp_A G)) (F0 m 69 ls []) := by
    intro z H locs ls h hP hS hl
    unfold f_X7_crosses_B69 at h
    refine lv_iconst (v := 0) hx hb dX7_crosses_69 (by decide) ?_
    exact hw_zret X hP hS hr hlocks h dX7_crosses_70
  have B131 : ∀ (s0 : Int32) (z : hp_S) (H : Heap) (locs : List Loc) (ls : Array Slot), f_X7_crosses_B131 fu a0 x1 x2 x3 x4 s0 z = some (rq, zq) → hp_P G z H → va_S (hp_A G) s.heap H locs → lv_has ls 8 [(0, .ref a0), (1, .int x1), (2, .int x2), (3, .int x3), (4, .int x4)] → W p l e (hp_rm 1 22 0 0) s m [.ref a0, .int x1, .int x2, .int x3, .int x4].toArray below meth c H locs 0 0 (MQ below (hp_Qi G rq zq) [.ref a0, .int x1, .int x2, .int x3, .int x4].toArray s 0 0 (hp_A G)) (F0 m 131 ls [.int s0]) := by
    intro s0 z H locs ls h hP hS hl
    unfold f_X7_crosses_B131 at h
    exact hw_zret X hP hS hr hlocks h dX7_crosses_131
  have B126 : ∀ (z : hp_S) (H : Heap) (locs : List Loc) (ls : Array Slot), f_X7_crosses_B126 fu a0 x1 x2 x3 x4 z = some (rq, zq) → hp_P G z H → va_S (hp_A G) s.heap H locs → lv_has ls 8 [(0, .ref a0), (1, .int x1), (2, .int x2), (3, .int x3), (4, .int x4)] → W p l e (hp_rm 1 22 0 0) s m [.ref a0, .int x1, .int x2, .int x3, .int x4].toArray below meth c H locs 0 0 (MQ below (hp_Qi G rq zq) [.ref a0, .int x1, .int x2, .int x3, .int x4].toArray s 0 0 (hp_A G)) (F0 m 126 ls []) := by
    intro z H locs ls h hP hS hl
    unfold f_X7_crosses_B126 at h
    refine lv_iconst (v := 1) hx hb dX7_crosses_126 (by decide) ?_
    refine lv_goto (tgt := 131) hx hb dX7_crosses_127 (by decide) ?_
    exact B131 1 z _ _ _ h hP hS (lv_sub hl [0, 1, 2, 3, 4] rfl)
  unfold f_X7_crosses at h
  refine lv_aload_n hx hb dX7_crosses_0 rfl (lv_at hl 0 rfl) ?_
  refine lv_iload_n hx hb dX7_crosses_1 rfl (lv_at hl 1 rfl) ?_
  refine lv_iload_n hx hb dX7_crosses_2 rfl (lv_at hl 3 rfl) ?_
  obtain ⟨_, hs, h⟩ := ho_bd h
  obtain ⟨⟨v1, z⟩, q, h⟩ := ho_bd h
  refine hw_ci hS (hp_runV (As := [.int x1, .int x3]) (rest := []) X hP hS hl.1 LX7 (ho_is_s hs) kX7_110 ⟨m4_21, mp_29⟩ (c_X7_at l G fu a0 x1 x3 _ _ _ q) rfl (Nat.le_of_ble_eq_true rfl) ⟨⟨Nat.le_of_ble_eq_true rfl, Nat.le_of_ble_eq_true rfl⟩, Nat.le_of_ble_eq_true rfl, Nat.le_of_ble_eq_true rfl⟩ dX7_crosses_3) (fun H locs hP hS => ?_)
  refine lv_istore (lv' := [(5, .int v1), (0, .ref a0), (1, .int x1), (2, .int x2), (3, .int x3), (4, .int x4)]) hx hb dX7_crosses_6 hl (by decide) rfl (fun ls hl => ?_)
  refine lv_aload_n hx hb dX7_crosses_8 rfl (lv_at hl 1 rfl) ?_
  refine lv_iload_n hx hb dX7_crosses_9 rfl (lv_at hl 3 rfl) ?_
  refine lv_iload hx hb dX7_crosses_10 (lv_at hl 5 rfl) ?_
  obtain ⟨_, hs, h⟩ := ho_bd h
  obtain ⟨⟨v2, z⟩, q, h⟩ := ho_bd h
  refine hw_ci hS (hp_runV (As := [.int x2, .int x4]) (rest := []) X hP hS hl.1 LX7 (ho_is_s hs) kX7_110 ⟨m4_21, mp_29⟩ (c_X7_at l G fu a0 x2 x4 _ _ _ q) rfl (Nat.le_of_ble_eq_true rfl) ⟨⟨Nat.le_of_ble_eq_true rfl, Nat.le_of_ble_eq_true rfl⟩, Nat.le_of_ble_eq_true rfl, Nat.le_of_ble_eq_true rfl⟩ dX7_crosses_12) (fun H locs hP hS => ?_)
  refine lv_istore (lv' := [(6, .int v2), (5, .int v1), (0, .ref a0), (1, .int x1), (2, .int x2), (3, .int x3), (4, .int x4)]) hx hb dX7_crosses_15 hl (by decide) rfl (fun ls hl => ?_)
  refine lv_iload hx hb dX7_crosses_17 (lv_at hl 1 rfl) ?_
  refine lv_iconst (v := (-1)) hx hb dX7_crosses_19 (by decide) ?_
  refine lv_icmp_eq (tgt := 69) hx hb dX7_crosses_20 (by decide) (fun hc => ?_) (fun hc => ?_)
  · replace h := ho_ip hc h
    exact B69 z _ _ _ h hP hS (lv_sub hl [2, 3, 4, 5, 6] rfl)
  · replace h := ho_in hc h
    refine lv_iload hx hb dX7_crosses_23 (lv_at hl 0 rfl) ?_
    refine lv_iconst (v := (-1)) hx hb dX7_crosses_25 (by decide) ?_
    refine lv_icmp_eq (tgt := 69) hx hb dX7_crosses_26 (by decide) (fun hc => ?_) (fun hc => ?_)
    · replace h := ho_ip hc h
      exact B69 z _ _ _ h hP hS (lv_sub hl [2, 3, 4, 5, 6] rfl)
    · replace h := ho_in hc h
      refine lv_aload_n hx hb dX7_crosses_29 rfl (lv_at hl 2 rfl) ?_
      obtain ⟨r3, q, h⟩ := ho_bd h
      refine hw_gr X hP LX7 fX7_16 rfl q dX7_crosses_30 ?_
      refine lv_iload hx hb dX7_crosses_33 (lv_at hl 1 rfl) ?_
      obtain ⟨v4, q, h⟩ := ho_bd h
      refine hw_li X hP q dX7_crosses_35 ?_
      refine lv_bipush (v := 7) hx hb dX7_crosses_36 (by decide) ?_
      obtain ⟨v5, q, h⟩ := ho_bd h
      refine hw_rm X q dX7_crosses_38 ?_
      refine lv_aload_n hx hb dX7_crosses_39 rfl (lv_at hl 2 rfl) ?_
      obtain ⟨r6, q, h⟩ := ho_bd h
      refine hw_gr X hP LX7 fX7_16 rfl q dX7_crosses_40 ?_
      refine lv_iload hx hb dX7_crosses_43 (lv_at hl 0 rfl) ?_
      obtain ⟨v7, q, h⟩ := ho_bd h
      refine hw_li X hP q dX7_crosses_45 ?_
      refine lv_bipush (v := 7) hx hb dX7_crosses_46 (by decide) ?_
      obtain ⟨v8, q, h⟩ := ho_bd h
      refine hw_rm X q dX7_crosses_48 ?_
      refine lv_icmp_ne (tgt := 69) hx hb dX7_crosses_49 (by decide) (fun hc => ?_) (fun hc => ?_)
      · replace h := ho_in hc h
        exact B69 z _ _ _ h hP hS (lv_sub hl [2, 3, 4, 5, 6] rfl)
      · replace h := ho_ip hc h
        refine lv_aload_n hx hb dX7_crosses_52 rfl (lv_at hl 2 rfl) ?_
        obtain ⟨r9, q, h⟩ := ho_bd h
        refine hw_gr X hP LX7 fX7_19 rfl q dX7_crosses_53 ?_
        refine lv_iload hx hb dX7_crosses_56 (lv_at hl 1 rfl) ?_
        obtain ⟨v10, q, h⟩ := ho_bd h
        refine hw_li X hP q dX7_crosses_58 ?_
        refine lv_aload_n hx hb dX7_crosses_59 rfl (lv_at hl 2 rfl) ?_
        obtain ⟨r11, q, h⟩ := ho_bd h
        refine hw_gr X hP LX7 fX7_19 rfl q dX7_crosses_60 ?_
        refine lv_iload hx hb dX7_crosses_63 (lv_at hl 0 rfl) ?_
        obtain ⟨v12, q, h⟩ := ho_bd h
        refine hw_li X hP q dX7_crosses_65 ?_
        refine lv_icmp_ne (tgt := 71) hx hb dX7_crosses_66 (by decide) (fun hc => ?_) (fun hc => ?_)
        · replace h := ho_in hc h
          refine lv_aload_n hx hb dX7_crosses_71 rfl (lv_at hl 2 rfl) ?_
          refine lv_iload_n hx hb dX7_crosses_72 rfl (lv_at hl 3 rfl) ?_
          refine lv_iload hx hb dX7_crosses_73 (lv_at hl 6 rfl) ?_
          obtain ⟨_, hs, h⟩ := ho_bd h
          obtain ⟨⟨v13, z⟩, q, h⟩ := ho_bd h
          refine hw_ci hS (hp_runV (As := [.int x1, .int x4]) (rest := []) X hP hS hl.1 LX7 (ho_is_s hs) kX7_110 ⟨m4_21, mp_29⟩ (c_X7_at l G fu a0 x1 x4 _ _ _ q) rfl (Nat.le_of_ble_eq_true rfl) ⟨⟨Nat.le_of_ble_eq_true rfl, Nat.le_of_ble_eq_true rfl⟩, Nat.le_of_ble_eq_true rfl, Nat.le_of_ble_eq_true rfl⟩ dX7_crosses_75) (fun H locs hP hS => ?_)
          refine lv_istore (lv' := [(7, .int v13), (6, .int v2), (5, .int v1), (0, .ref a0), (1, .int x1), (2, .int x2), (3, .int x3), (4, .int x4)]) hx hb dX7_crosses_78 hl (by decide) rfl (fun ls hl => ?_)
          refine lv_iload hx hb dX7_crosses_80 (lv_at hl 0 rfl) ?_
          refine lv_iconst (v := (-1)) hx hb dX7_crosses_82 (by decide) ?_
          refine lv_icmp_eq (tgt := 126) hx hb dX7_crosses_83 (by decide) (fun hc => ?_) (fun hc => ?_)
          · replace h := ho_ip hc h
            exact B126 z _ _ _ h hP hS (lv_sub hl [3, 4, 5, 6, 7] rfl)
          · replace h := ho_in hc h
            refine lv_aload_n hx hb dX7_crosses_86 rfl (lv_at hl 3 rfl) ?_
            obtain ⟨r14, q, h⟩ := ho_bd h
            refine hw_gr X hP LX7 fX7_16 rfl q dX7_crosses_87 ?_
            refine lv_iload hx hb dX7_crosses_90 (lv_at hl 0 rfl) ?_
            obtain ⟨v15, q, h⟩ := ho_bd h
            refine hw_li X hP q dX7_crosses_92 ?_
            refine lv_bipush (v := 7) hx hb dX7_crosses_93 (by decide) ?_
            obtain ⟨v16, q, h⟩ := ho_bd h
            refine hw_rm X q dX7_crosses_95 ?_
            refine lv_aload_n hx hb dX7_crosses_96 rfl (lv_at hl 3 rfl) ?_
            obtain ⟨r17, q, h⟩ := ho_bd h
            refine hw_gr X hP LX7 fX7_16 rfl q dX7_crosses_97 ?_
            refine lv_iload hx hb dX7_crosses_100 (lv_at hl 1 rfl) ?_
            obtain ⟨v18, q, h⟩ := ho_bd h
            refine hw_li X hP q dX7_crosses_102 ?_
            refine lv_bipush (v := 7) hx hb dX7_crosses_103 (by decide) ?_
            obtain ⟨v19, q, h⟩ := ho_bd h
            refine hw_rm X q dX7_crosses_105 ?_
            refine lv_icmp_ne (tgt := 126) hx hb dX7_crosses_106 (by decide) (fun hc => ?_) (fun hc => ?_)
            · replace h := ho_in hc h
              exact B126 z _ _ _ h hP hS (lv_sub hl [3, 4, 5, 6, 7] rfl)
            · replace h := ho_ip hc h
              refine lv_aload_n hx hb dX7_crosses_109 rfl (lv_at hl 3 rfl) ?_
              obtain ⟨r20, q, h⟩ := ho_bd h
              refine hw_gr X hP LX7 fX7_19 rfl q dX7_crosses_110 ?_
              refine lv_iload hx hb dX7_crosses_113 (lv_at hl 0 rfl) ?_
              obtain ⟨v21, q, h⟩ := ho_bd h
              refine hw_li X hP q dX7_crosses_115 ?_
              refine lv_aload_n hx hb dX7_crosses_116 rfl (lv_at hl 3 rfl) ?_
              obtain ⟨r22, q, h⟩ := ho_bd h
              refine hw_gr X hP LX7 fX7_19 rfl q dX7_crosses_117 ?_
              refine lv_iload hx hb dX7_crosses_120 (lv_at hl 1 rfl) ?_
              obtain ⟨v23, q, h⟩ := ho_bd h
              refine hw_li X hP q dX7_crosses_122 ?_
              refine lv_icmp_eq (tgt := 130) hx hb dX7_crosses_123 (by decide) (fun hc => ?_) (fun hc => ?_)
              · replace h := ho_ip hc h
                refine lv_iconst (v := 0) hx hb dX7_crosses_130 (by decide) ?_
                exact B131 0 z _ _ _ h hP hS (lv_sub hl [3, 4, 5, 6, 7] rfl)
              · replace h := ho_in hc h
                exact B126 z _ _ _ h hP hS (lv_sub hl [3, 4, 5, 6, 7] rfl)
        · replace h := ho_ip hc h
          exact B69 z _ _ _ h hP hS (lv_sub hl [2, 3, 4, 5, 6] rfl)
