def f_X7_isPairBroken_B120 (fu : Nat) (a0 : Nat) (x1 : Int32) (x2 : Int32) (x3 : Int32) (x4 : Int32) (x5 : Int32) (s0 : Int32) (z : hp_S) : Option (Int32 × hp_S) :=
  if vp_nar .boolean s0 = s0 then some (s0, z) else none
def f_X7_isPairBroken_B119 (fu : Nat) (a0 : Nat) (x1 : Int32) (x2 : Int32) (x3 : Int32) (x4 : Int32) (x5 : Int32) (z : hp_S) : Option (Int32 × hp_S) :=
  f_X7_isPairBroken_B120 fu a0 x1 x2 x3 x4 x5 0 z
def f_X7_isPairBroken_B183 (fu : Nat) (a0 : Nat) (x1 : Int32) (x2 : Int32) (x3 : Int32) (x4 : Int32) (x5 : Int32) (s0 : Int32) (z : hp_S) : Option (Int32 × hp_S) :=
  if vp_nar .boolean s0 = s0 then some (s0, z) else none
def f_X7_isPairBroken_B182 (fu : Nat) (a0 : Nat) (x1 : Int32) (x2 : Int32) (x3 : Int32) (x4 : Int32) (x5 : Int32) (z : hp_S) : Option (Int32 × hp_S) :=
  f_X7_isPairBroken_B183 fu a0 x1 x2 x3 x4 x5 0 z
def f_X7_isPairBroken_B231 (fu : Nat) (a0 : Nat) (x1 : Int32) (x2 : Int32) (x3 : Int32) (x4 : Int32) (x5 : Int32) (z : hp_S) : Option (Int32 × hp_S) :=
  if vp_nar .boolean 0 = 0 then some (0, z) else none
def f_X7_isPairBroken_B276 (fu : Nat) (a0 : Nat) (x1 : Int32) (x2 : Int32) (x3 : Int32) (x4 : Int32) (x5 : Int32) (s0 : Int32) (z : hp_S) : Option (Int32 × hp_S) :=
  if vp_nar .boolean s0 = s0 then some (s0, z) else none
def f_X7_isPairBroken_B271 (fu : Nat) (a0 : Nat) (x1 : Int32) (x2 : Int32) (x3 : Int32) (x4 : Int32) (x5 : Int32) (z : hp_S) : Option (Int32 × hp_S) :=
  f_X7_isPairBroken_B276 fu a0 x1 x2 x3 x4 x5 1 z
def f_X7_isPairBroken_B356 (fu : Nat) (a0 : Nat) (x1 : Int32) (x2 : Int32) (x3 : Int32) (x4 : Int32) (x5 : Int32) (s0 : Int32) (z : hp_S) : Option (Int32 × hp_S) :=
  if vp_nar .boolean s0 = s0 then some (s0, z) else none
def f_X7_isPairBroken_B355 (fu : Nat) (a0 : Nat) (x1 : Int32) (x2 : Int32) (x3 : Int32) (x4 : Int32) (x5 : Int32) (z : hp_S) : Option (Int32 × hp_S) :=
  f_X7_isPairBroken_B356 fu a0 x1 x2 x3 x4 x5 0 z
def f_X7_isPairBroken_B351 (fu : Nat) (a0 : Nat) (x1 : Int32) (x2 : Int32) (x3 : Int32) (x4 : Int32) (x5 : Int32) (z : hp_S) : Option (Int32 × hp_S) :=
  f_X7_isPairBroken_B356 fu a0 x1 x2 x3 x4 x5 1 z
def f_X7_isPairBroken_B454 (fu : Nat) (a0 : Nat) (x1 : Int32) (x2 : Int32) (x3 : Int32) (x4 : Int32) (x5 : Int32) (s0 : Int32) (z : hp_S) : Option (Int32 × hp_S) :=
  if vp_nar .boolean s0 = s0 then some (s0, z) else none
def f_X7_isPairBroken_B453 (fu : Nat) (a0 : Nat) (x1 : Int32) (x2 : Int32) (x3 : Int32) (x4 : Int32) (x5 : Int32) (z : hp_S) : Option (Int32 × hp_S) :=
  f_X7_isPairBroken_B454 fu a0 x1 x2 x3 x4 x5 0 z
def f_X7_isPairBroken_B449 (fu : Nat) (a0 : Nat) (x1 : Int32) (x2 : Int32) (x3 : Int32) (x4 : Int32) (x5 : Int32) (z : hp_S) : Option (Int32 × hp_S) :=
  f_X7_isPairBroken_B454 fu a0 x1 x2 x3 x4 x5 1 z
def f_X7_isPairBroken_B548 (fu : Nat) (a0 : Nat) (x1 : Int32) (x2 : Int32) (x3 : Int32) (x4 : Int32) (x5 : Int32) (s0 : Int32) (z : hp_S) : Option (Int32 × hp_S) :=
  if vp_nar .boolean s0 = s0 then some (s0, z) else none
def f_X7_isPairBroken_B547 (fu : Nat) (a0 : Nat) (x1 : Int32) (x2 : Int32) (x3 : Int32) (x4 : Int32) (x5 : Int32) (z : hp_S) : Option (Int32 × hp_S) :=
  f_X7_isPairBroken_B548 fu a0 x1 x2 x3 x4 x5 0 z
def f_X7_isPairBroken_B602 (fu : Nat) (a0 : Nat) (x1 : Int32) (x2 : Int32) (x3 : Int32) (x4 : Int32) (x5 : Int32) (s0 : Int32) (z : hp_S) : Option (Int32 × hp_S) :=
  if vp_nar .boolean s0 = s0 then some (s0, z) else none
def f_X7_isPairBroken_B601 (fu : Nat) (a0 : Nat) (x1 : Int32) (x2 : Int32) (x3 : Int32) (x4 : Int32) (x5 : Int32) (z : hp_S) : Option (Int32 × hp_S) :=
  f_X7_isPairBroken_B602 fu a0 x1 x2 x3 x4 x5 0 z
def f_X7_isPairBroken (fu : Nat) (a0 : Nat) (x1 : Int32) (x2 : Int32) (x3 : Int32) (x4 : Int32) (x5 : Int32) (z : hp_S) : Option (Int32 × hp_S) :=
  if x1 = 0 then (
    (ho_is 7 a0 z).bind fun _ =>
    (f_X7_goAlike fu a0 x2 x3 x4 x5 z).bind fun ⟨v1, z⟩ =>
    if v1 = 0 then (
      f_X7_isPairBroken_B119 fu a0 x1 x2 x3 x4 x5  z
    ) else (
      (ho_is 7 a0 z).bind fun _ =>
      (f_X7_which fu a0 x2 x3 x4 z).bind fun ⟨v2, z⟩ =>
      (ho_is 7 a0 z).bind fun _ =>
      (f_X7_isPure fu a0 v2 z).bind fun ⟨v3, z⟩ =>
      if v3 = 0 then (
        f_X7_isPairBroken_B119 fu a0 x1 x2 x3 x4 x5  z
      ) else (
        (ho_is 7 a0 z).bind fun _ =>
        (f_X7_which fu a0 x2 x3 x4 z).bind fun ⟨v4, z⟩ =>
        (ho_is 7 a0 z).bind fun _ =>
        (f_X7_which fu a0 x2 x3 x5 z).bind fun ⟨v5, z⟩ =>
        if v4 = v5 then (
          f_X7_isPairBroken_B120 fu a0 x1 x2 x3 x4 x5 1 z
        ) else (
          f_X7_isPairBroken_B119 fu a0 x1 x2 x3 x4 x5  z
        )
      )
    )
  ) else (
  if x1 = 1 then (
    (ho_is 7 a0 z).bind fun _ =>
    (f_X7_way fu a0 x2 x4 x5 z).bind fun ⟨v6, z⟩ =>
    (ho_is 7 a0 z).bind fun _ =>
    (f_X7_way fu a0 x3 x4 x5 z).bind fun ⟨v7, z⟩ =>
    if (v6 * v7) = (-1) then (
      (ho_is 7 a0 z).bind fun _ =>
      (f_X7_which fu a0 x2 x3 x4 z).bind fun ⟨v8, z⟩ =>
      (ho_is 7 a0 z).bind fun _ =>
      (f_X7_isPure fu a0 v8 z).bind fun ⟨v9, z⟩ =>
      if v9 = 0 then (
        f_X7_isPairBroken_B182 fu a0 x1 x2 x3 x4 x5  z
      ) else (
        (ho_is 7 a0 z).bind fun _ =>
        (f_X7_which fu a0 x2 x3 x4 z).bind fun ⟨v10, z⟩ =>
        (ho_is 7 a0 z).bind fun _ =>
        (f_X7_which fu a0 x2 x3 x5 z).bind fun ⟨v11, z⟩ =>
        if v10 = v11 then (
          f_X7_isPairBroken_B183 fu a0 x1 x2 x3 x4 x5 1 z
        ) else (
          f_X7_isPairBroken_B182 fu a0 x1 x2 x3 x4 x5  z
        )
      )
    ) else (
      f_X7_isPairBroken_B182 fu a0 x1 x2 x3 x4 x5  z
    )
  ) else (
  if x1 = 2 then (
    (ho_is 7 a0 z).bind fun _ =>
    (f_X7_goAlike fu a0 x2 x3 x4 x5 z).bind fun ⟨v12, z⟩ =>
    if v12 = 0 then (
      f_X7_isPairBroken_B231 fu a0 x1 x2 x3 x4 x5  z
    ) else (
      (ho_is 7 a0 z).bind fun _ =>
      (f_X7_which fu a0 x2 x3 x5 z).bind fun ⟨v13, z⟩ =>
      (ho_is 7 a0 z).bind fun _ =>
      (f_X7_isPure fu a0 v13 z).bind fun ⟨v14, z⟩ =>
      if v14 = 0 then (
        f_X7_isPairBroken_B231 fu a0 x1 x2 x3 x4 x5  z
      ) else (
        (ho_is 7 a0 z).bind fun _ =>
        (f_X7_which fu a0 x2 x3 x4 z).bind fun ⟨v15, z⟩ =>
        (ho_is 7 a0 z).bind fun _ =>
        (f_X7_which fu a0 x2 x3 x5 z).bind fun ⟨v16, z⟩ =>
        if v15 = v16 then (
          f_X7_isPairBroken_B231 fu a0 x1 x2 x3 x4 x5  z
        ) else (
          (ho_is 7 a0 z).bind fun _ =>
          (f_X7_at fu a0 x3 x5 z).bind fun ⟨v17, z⟩ =>
          (ho_is 7 a0 z).bind fun _ =>
          (f_X7_heightOf fu a0 v17 z).bind fun ⟨v18, z⟩ =>
          (ho_is 7 a0 z).bind fun _ =>
          (f_X7_at fu a0 x3 x4 z).bind fun ⟨v19, z⟩ =>
          (ho_is 7 a0 z).bind fun _ =>
          (f_X7_heightOf fu a0 v19 z).bind fun ⟨v20, z⟩ =>
          (ho_id (v18 - v20)).bind fun v21 =>
          if 2 < v21 then (
            f_X7_isPairBroken_B271 fu a0 x1 x2 x3 x4 x5  z
          ) else (
            if (-2) ≤ v21 then (
              f_X7_isPairBroken_B276 fu a0 x1 x2 x3 x4 x5 0 z
            ) else (
              f_X7_isPairBroken_B271 fu a0 x1 x2 x3 x4 x5  z
            )
          )
        )
      )
    )
  ) else (
  if x1 = 3 then (
    if vp_nar .boolean 0 = 0 then some (0, z) else none
  ) else (
  if x1 = 4 then (
    (ho_is 7 a0 z).bind fun _ =>
    (f_X7_goes fu a0 x2 x4 x5 z).bind fun ⟨v22, z⟩ =>
    if v22 = 0 then (
      f_X7_isPairBroken_B355 fu a0 x1 x2 x3 x4 x5  z
    ) else (
      (ho_is 7 a0 z).bind fun _ =>
      (f_X7_goes fu a0 x3 x4 x5 z).bind fun ⟨v23, z⟩ =>
      if v23 = 0 then (
        f_X7_isPairBroken_B355 fu a0 x1 x2 x3 x4 x5  z
      ) else (
        (ho_is 7 a0 z).bind fun _ =>
        (f_X7_at fu a0 x2 x5 z).bind fun ⟨v24, z⟩ =>
        (ho_is 7 a0 z).bind fun _ =>
        (f_X7_heightOf fu a0 v24 z).bind fun ⟨v25, z⟩ =>
        (ho_is 7 a0 z).bind fun _ =>
        (f_X7_at fu a0 x3 x4 z).bind fun ⟨v26, z⟩ =>
        (ho_is 7 a0 z).bind fun _ =>
        (f_X7_heightOf fu a0 v26 z).bind fun ⟨v27, z⟩ =>
        if v27 < v25 then (
          f_X7_isPairBroken_B351 fu a0 x1 x2 x3 x4 x5  z
        ) else (
          (ho_is 7 a0 z).bind fun _ =>
          (f_X7_at fu a0 x3 x5 z).bind fun ⟨v28, z⟩ =>
          (ho_is 7 a0 z).bind fun _ =>
          (f_X7_heightOf fu a0 v28 z).bind fun ⟨v29, z⟩ =>
          (ho_is 7 a0 z).bind fun _ =>
          (f_X7_at fu a0 x2 x4 z).bind fun ⟨v30, z⟩ =>
          (ho_is 7 a0 z).bind fun _ =>
          (f_X7_heightOf fu a0 v30 z).bind fun ⟨v31, z⟩ =>
          if v31 ≤ v29 then (
            f_X7_isPairBroken_B355 fu a0 x1 x2 x3 x4 x5  z
          ) else (
            f_X7_isPairBroken_B351 fu a0 x1 x2 x3 x4 x5  z
          )
        )
      )
    )
  ) else (
  if x1 = 5 then (
    if vp_nar .boolean 0 = 0 then some (0, z) else none
  ) else (
  if x1 = 6 then (
    if vp_nar .boolean 0 = 0 then some (0, z) else none
  ) else (
  if x1 = 7 then (
    (ho_is 7 a0 z).bind fun _ =>
    (f_X7_leaps fu a0 x2 x4 x5 z).bind fun ⟨v32, z⟩ =>
    if vp_nar .boolean v32 = v32 then some (v32, z) else none
  ) else (
  if x1 = 8 then (
    (ho_is 7 a0 z).bind fun _ =>
    (f_X7_moves fu a0 x2 x4 x5 z).bind fun ⟨v33, z⟩ =>
    if v33 = 0 then (
      f_X7_isPairBroken_B453 fu a0 x1 x2 x3 x4 x5  z
    ) else (
      (ho_is 7 a0 z).bind fun _ =>
      (f_X7_at fu a0 x2 x4 z).bind fun ⟨v34, z⟩ =>
      (ho_is 7 a0 z).bind fun _ =>
      (f_X7_isLeading fu a0 v34 z).bind fun ⟨v35, z⟩ =>
      if v35 = 0 then (
        f_X7_isPairBroken_B453 fu a0 x1 x2 x3 x4 x5  z
      ) else (
        (ho_gr 7 a0 3 z).bind fun r36 =>
        (ho_is 7 a0 z).bind fun _ =>
        (f_X7_at fu a0 x2 x5 z).bind fun ⟨v37, z⟩ =>
        (ho_li 1 r36 v37 z).bind fun v38 =>
        (ho_gr 7 a0 3 z).bind fun r39 =>
        (ho_is 7 a0 z).bind fun _ =>
        (f_X7_at fu a0 x2 x4 z).bind fun ⟨v40, z⟩ =>
        (ho_li 1 r39 v40 z).bind fun v41 =>
        if v38 = (v41 + 1) then (
          (ho_is 7 a0 z).bind fun _ =>
          (f_X7_at fu a0 x2 x5 z).bind fun ⟨v42, z⟩ =>
          (ho_is 7 a0 z).bind fun _ =>
          (f_X7_heightOf fu a0 v42 z).bind fun ⟨v43, z⟩ =>
          (ho_is 7 a0 z).bind fun _ =>
          (f_X7_at fu a0 x2 x4 z).bind fun ⟨v44, z⟩ =>
          (ho_is 7 a0 z).bind fun _ =>
          (f_X7_heightOf fu a0 v44 z).bind fun ⟨v45, z⟩ =>
          if v43 = (v45 + 1) then (
            f_X7_isPairBroken_B453 fu a0 x1 x2 x3 x4 x5  z
          ) else (
            f_X7_isPairBroken_B449 fu a0 x1 x2 x3 x4 x5  z
          )
        ) else (
          f_X7_isPairBroken_B449 fu a0 x1 x2 x3 x4 x5  z
        )
      )
    )
  ) else (
  if x1 = 9 then (
    if vp_nar .boolean 0 = 0 then some (0, z) else none
  ) else (
  if x1 = 10 then (
    (ho_is 7 a0 z).bind fun _ =>
    (f_X7_moves fu a0 x2 x4 x5 z).bind fun ⟨v46, z⟩ =>
    if v46 = 0 then (
      f_X7_isPairBroken_B547 fu a0 x1 x2 x3 x4 x5  z
    ) else (
      (ho_is 7 a0 z).bind fun _ =>
      (f_X7_at fu a0 0 x4 z).bind fun ⟨v47, z⟩ =>
      if v47 = (-1) then (
        f_X7_isPairBroken_B547 fu a0 x1 x2 x3 x4 x5  z
      ) else (
        (ho_gr 7 a0 3 z).bind fun r48 =>
        (ho_is 7 a0 z).bind fun _ =>
        (f_X7_at fu a0 x2 x4 z).bind fun ⟨v49, z⟩ =>
        (ho_li 1 r48 v49 z).bind fun v50 =>
        (ho_gr 7 a0 3 z).bind fun r51 =>
        (ho_is 7 a0 z).bind fun _ =>
        (f_X7_at fu a0 0 x4 z).bind fun ⟨v52, z⟩ =>
        (ho_li 1 r51 v52 z).bind fun v53 =>
        (f_X7_modulo fu (v50 - v53) 7 0 z).bind fun ⟨v54, z⟩ =>
        if v54 = 6 then (
          (ho_gr 7 a0 3 z).bind fun r55 =>
          (ho_is 7 a0 z).bind fun _ =>
          (f_X7_at fu a0 x2 x5 z).bind fun ⟨v56, z⟩ =>
          (ho_li 1 r55 v56 z).bind fun v57 =>
          (ho_gr 7 a0 3 z).bind fun r58 =>
          (ho_is 7 a0 z).bind fun _ =>
          (f_X7_at fu a0 x2 x4 z).bind fun ⟨v59, z⟩ =>
          (ho_li 1 r58 v59 z).bind fun v60 =>
          if v57 = (v60 - 1) then (
            f_X7_isPairBroken_B547 fu a0 x1 x2 x3 x4 x5  z
          ) else (
            f_X7_isPairBroken_B548 fu a0 x1 x2 x3 x4 x5 1 z
          )
        ) else (
          f_X7_isPairBroken_B547 fu a0 x1 x2 x3 x4 x5  z
        )
      )
    )
  ) else (
  if x1 = 11 then (
    (ho_is 7 a0 z).bind fun _ =>
    (f_X7_crosses fu a0 x2 x3 x4 x5 z).bind fun ⟨v61, z⟩ =>
    if vp_nar .boolean v61 = v61 then some (v61, z) else none
  ) else (
  if x1 = 12 then (
    (ho_is 7 a0 z).bind fun _ =>
    (f_X7_goAlike fu a0 x2 x3 x4 x5 z).bind fun ⟨v62, z⟩ =>
    if v62 = 0 then (
      f_X7_isPairBroken_B601 fu a0 x1 x2 x3 x4 x5  z
    ) else (
      (ho_is 7 a0 z).bind fun _ =>
      (f_X7_which fu a0 x2 x3 x4 z).bind fun ⟨v63, z⟩ =>
      if v63 = 3 then (
        f_X7_isPairBroken_B601 fu a0 x1 x2 x3 x4 x5  z
      ) else (
        (ho_is 7 a0 z).bind fun _ =>
        (f_X7_which fu a0 x2 x3 x5 z).bind fun ⟨v64, z⟩ =>
        if v64 = 3 then (
          f_X7_isPairBroken_B602 fu a0 x1 x2 x3 x4 x5 1 z
        ) else (
          f_X7_isPairBroken_B601 fu a0 x1 x2 x3 x4 x5  z
        )
      )
    )
  ) else (
    if vp_nar .boolean 0 = 0 then some (0, z) else none
  )))))))))))))
set_option maxHeartbeats 4000000 in
set_option maxRecDepth 100000 in
theorem c_X7_isPairBroken (l : Launch) (G : hp_G) (fu : Nat) (a0 : Nat) (x1 : Int32) (x2 : Int32) (x3 : Int32) (x4 : Int32) (x5 : Int32) (z : hp_S) (rq : Int32) (zq : hp_S) (h : f_X7_isPairBroken fu a0 x1 x2 x3 x4 x5 z = some (rq, zq)) : hp_M l G yX7_isPairBroken cX7_isPairBroken 7 (some .boolean) 5 116 0 0 [.ref a0, .int x1, .int x2, .int x3, .int x4, .int x5] z (hp_Qi G rq zq) := by
  refine hp_M.of (by decide) (Nat.le_of_ble_eq_true rfl) ?_
  intro p e s m below meth c X hr hlocks hnm hP hS ls hl
  have X : hp_C G cX7_isPairBroken RX7 7 p s m c := X
  have hl : lv_has ls 7 [(0, .ref a0), (1, .int x1), (2, .int x2), (3, .int x3), (4, .int x4), (5, .int x5)] := hl
  have hx := X.1
  have hb := X.2.1
  have B120 : ∀ (s0 : Int32) (z : hp_S) (H : Heap) (locs : List Loc) (ls : Array Slot), f_X7_isPairBroken_B120 fu a0 x1 x2 x3 x4 x5 s0 z = some (rq, zq) → hp_P G z H → va_S (hp_A G) s.heap H locs → lv_has ls 7 [(0, .ref a0), (1, .int x1), (2, .int x2), (3, .int x3), (4, .int x4), (5, .int x5)] → W p l e (hp_rm 5 116 0 0) s m [.ref a0, .int x1, .int x2, .int x3, .int x4, .int x5].toArray below meth c H locs 0 0 (MQ below (hp_Qi G rq zq) [.ref a0, .int x1, .int x2, .int x3, .int x4, .int x5].toArray s 0 0 (hp_A G)) (F0 m 120 ls [.int s0]) := by
    intro s0 z H locs ls h hP hS hl
    unfold f_X7_isPairBroken_B120 at h
    exact hw_zret X hP hS hr hlocks h dX7_isPairBroken_120
  have B119 : ∀ (z : hp_S) (H : Heap) (locs : List Loc) (ls : Array Slot), f_X7_isPairBroken_B119 fu a0 x1 x2 x3 x4 x5 z = some (rq, zq) → hp_P G z H → va_S (hp_A G) s.heap H locs → lv_has ls 7 [(0, .ref a0), (1, .int x1), (2, .int x2), (3, .int x3), (4, .int x4), (5, .int x5)] → W p l e (hp_rm 5 116 0 0) s m [.ref a0, .int x1, .int x2, .int x3, .int x4, .int x5].toArray below meth c H locs 0 0 (MQ below (hp_Qi G rq zq) [.ref a0, .int x1, .int x2, .int x3, .int x4, .int x5].toArray s 0 0 (hp_A G)) (F0 m 119 ls []) := by
    intro z H locs ls h hP hS hl
    unfold f_X7_isPairBroken_B119 at h
    refine lv_iconst (v := 0) hx hb dX7_isPairBroken_119 (by decide) ?_
    exact B120 0 z _ _ _ h hP hS (lv_sub hl [0, 1, 2, 3, 4, 5] rfl)
  have B183 : ∀ (s0 : Int32) (z : hp_S) (H : Heap) (locs : List Loc) (ls : Array Slot), f_X7_isPairBroken_B183 fu a0 x1 x2 x3 x4 x5 s0 z = some (rq, zq) → hp_P G z H → va_S (hp_A G) s.heap H locs → lv_has ls 7 [(0, .ref a0), (1, .int x1), (2, .int x2), (3, .int x3), (4, .int x4), (5, .int x5)] → W p l e (hp_rm 5 116 0 0) s m [.ref a0, .int x1, .int x2, .int x3, .int x4, .int x5].toArray below meth c H locs 0 0 (MQ below (hp_Qi G rq zq) [.ref a0, .int x1, .int x2, .int x3, .int x4, .int x5].toArray s 0 0 (hp_A G)) (F0 m 183 ls [.int s0]) := by
    intro s0 z H locs ls h hP hS hl
    unfold f_X7_isPairBroken_B183 at h
    exact hw_zret X hP hS hr hlocks h dX7_isPairBroken_183
  have B182 : ∀ (z : hp_S) (H : Heap) (locs : List Loc) (ls : Array Slot), f_X7_isPairBroken_B182 fu a0 x1 x2 x3 x4 x5 z = some (rq, zq) → hp_P G z H → va_S (hp_A G) s.heap H locs → lv_has ls 7 [(0, .ref a0), (1, .int x1), (2, .int x2), (3, .int x3), (4, .int x4), (5, .int x5)] → W p l e (hp_rm 5 116 0 0) s m [.ref a0, .int x1, .int x2, .int x3, .int x4, .int x5].toArray below meth c H locs 0 0 (MQ below (hp_Qi G rq zq) [.ref a0, .int x1, .int x2, .int x3, .int x4, .int x5].toArray s 0 0 (hp_A G)) (F0 m 182 ls []) := by
    intro z H locs ls h hP hS hl
    unfold f_X7_isPairBroken_B182 at h
    refine lv_iconst (v := 0) hx hb dX7_isPairBroken_182 (by decide) ?_
    exact B183 0 z _ _ _ h hP hS (lv_sub hl [0, 1, 2, 3, 4, 5] rfl)
  have B231 : ∀ (z : hp_S) (H : Heap) (locs : List Loc) (ls : Array Slot), f_X7_isPairBroken_B231 fu a0 x1 x2 x3 x4 x5 z = some (rq, zq) → hp_P G z H → va_S (hp_A G) s.heap H locs → lv_has ls 7 [(0, .ref a0), (1, .int x1), (2, .int x2), (3, .int x3), (4, .int x4), (5, .int x5)] → W p l e (hp_rm 5 116 0 0) s m [.ref a0, .int x1, .int x2, .int x3, .int x4, .int x5].toArray below meth c H locs 0 0 (MQ below (hp_Qi G rq zq) [.ref a0, .int x1, .int x2, .int x3, .int x4, .int x5].toArray s 0 0 (hp_A G)) (F0 m 231 ls []) := by
    intro z H locs ls h hP hS hl
    unfold f_X7_isPairBroken_B231 at h
    refine lv_iconst (v := 0) hx hb dX7_isPairBroken_231 (by decide) ?_
    exact hw_zret X hP hS hr hlocks h dX7_isPairBroken_232
  have B276 : ∀ (s0 : Int32) (z : hp_S) (H : Heap) (locs : List Loc) (ls : Array Slot), f_X7_isPairBroken_B276 fu a0 x1 x2 x3 x4 x5 s0 z = some (rq, zq) → hp_P G z H → va_S (hp_A G) s.heap H locs → lv_has ls 7 [(0, .ref a0), (1, .int x1), (2, .int x2), (3, .int x3), (4, .int x4), (5, .int x5)] → W p l e (hp_rm 5 116 0 0) s m [.ref a0, .int x1, .int x2, .int x3, .int x4, .int x5].toArray below meth c H locs 0 0 (MQ below (hp_Qi G rq zq) [.ref a0, .int x1, .int x2, .int x3, .int x4, .int x5].toArray s 0 0 (hp_A G)) (F0 m 276 ls [.int s0]) := by
    intro s0 z H locs ls h hP hS hl
    unfold f_X7_isPairBroken_B276 at h
    exact hw_zret X hP hS hr hlocks h dX7_isPairBroken_276
  have B271 : ∀ (z : hp_S) (H : Heap) (locs : List Loc) (ls : Array Slot), f_X7_isPairBroken_B271 fu a0 x1 x2 x3 x4 x5 z = some (rq, zq) → hp_P G z H → va_S (hp_A G) s.heap H locs → lv_has ls 7 [(0, .ref a0), (1, .int x1), (2, .int x2), (3, .int x3), (4, .int x4), (5, .int x5)] → W p l e (hp_rm 5 116 0 0) s m [.ref a0, .int x1, .int x2, .int x3, .int x4, .int x5].toArray below meth c H locs 0 0 (MQ below (hp_Qi G rq zq) [.ref a0, .int x1, .int x2, .int x3, .int x4, .int x5].toArray s 0 0 (hp_A G)) (F0 m 271 ls []) := by
    intro z H locs ls h hP hS hl
    unfold f_X7_isPairBroken_B271 at h
    refine lv_iconst (v := 1) hx hb dX7_isPairBroken_271 (by decide) ?_
    refine lv_goto (tgt := 276) hx hb dX7_isPairBroken_272 (by decide) ?_
    exact B276 1 z _ _ _ h hP hS (lv_sub hl [0, 1, 2, 3, 4, 5] rfl)
  have B356 : ∀ (s0 : Int32) (z : hp_S) (H : Heap) (locs : List Loc) (ls : Array Slot), f_X7_isPairBroken_B356 fu a0 x1 x2 x3 x4 x5 s0 z = some (rq, zq) → hp_P G z H → va_S (hp_A G) s.heap H locs → lv_has ls 7 [(0, .ref a0), (1, .int x1), (2, .int x2), (3, .int x3), (4, .int x4), (5, .int x5)] → W p l e (hp_rm 5 116 0 0) s m [.ref a0, .int x1, .int x2, .int x3, .int x4, .int x5].toArray below meth c H locs 0 0 (MQ below (hp_Qi G rq zq) [.ref a0, .int x1, .int x2, .int x3, .int x4, .int x5].toArray s 0 0 (hp_A G)) (F0 m 356 ls [.int s0]) := by
    intro s0 z H locs ls h hP hS hl
    unfold f_X7_isPairBroken_B356 at h
    exact hw_zret X hP hS hr hlocks h dX7_isPairBroken_356
  have B355 : ∀ (z : hp_S) (H : Heap) (locs : List Loc) (ls : Array Slot), f_X7_isPairBroken_B355 fu a0 x1 x2 x3 x4 x5 z = some (rq, zq) → hp_P G z H → va_S (hp_A G) s.heap H locs → lv_has ls 7 [(0, .ref a0), (1, .int x1), (2, .int x2), (3, .int x3), (4, .int x4), (5, .int x5)] → W p l e (hp_rm 5 116 0 0) s m [.ref a0, .int x1, .int x2, .int x3, .int x4, .int x5].toArray below meth c H locs 0 0 (MQ below (hp_Qi G rq zq) [.ref a0, .int x1, .int x2, .int x3, .int x4, .int x5].toArray s 0 0 (hp_A G)) (F0 m 355 ls []) := by
    intro z H locs ls h hP hS hl
    unfold f_X7_isPairBroken_B355 at h
    refine lv_iconst (v := 0) hx hb dX7_isPairBroken_355 (by decide) ?_
    exact B356 0 z _ _ _ h hP hS (lv_sub hl [0, 1, 2, 3, 4, 5] rfl)
  have B351 : ∀ (z : hp_S) (H : Heap) (locs : List Loc) (ls : Array Slot), f_X7_isPairBroken_B351 fu a0 x1 x2 x3 x4 x5 z = some (rq, zq) → hp_P G z H → va_S (hp_A G) s.heap H locs → lv_has ls 7 [(0, .ref a0), (1, .int x1), (2, .int x2), (3, .int x3), (4, .int x4), (5, .int x5)] → W p l e (hp_rm 5 116 0 0) s m [.ref a0, .int x1, .int x2, .int x3, .int x4, .int x5].toArray below meth c H locs 0 0 (MQ below (hp_Qi G rq zq) [.ref a0, .int x1, .int x2, .int x3, .int x4, .int x5].toArray s 0 0 (hp_A G)) (F0 m 351 ls []) := by
    intro z H locs ls h hP hS hl
    unfold f_X7_isPairBroken_B351 at h
    refine lv_iconst (v := 1) hx hb dX7_isPairBroken_351 (by decide) ?_
    refine lv_goto (tgt := 356) hx hb dX7_isPairBroken_352 (by decide) ?_
    exact B356 1 z _ _ _ h hP hS (lv_sub hl [0, 1, 2, 3, 4, 5] rfl)
  have B454 : ∀ (s0 : Int32) (z : hp_S) (H : Heap) (locs : List Loc) (ls : Array Slot), f_X7_isPairBroken_B454 fu a0 x1 x2 x3 x4 x5 s0 z = some (rq, zq) → hp_P G z H → va_S (hp_A G) s.heap H locs → lv_has ls 7 [(0, .ref a0), (1, .int x1), (2, .int x2), (3, .int x3), (4, .int x4), (5, .int x5)] → W p l e (hp_rm 5 116 0 0) s m [.ref a0, .int x1, .int x2, .int x3, .int x4, .int x5].toArray below meth c H locs 0 0 (MQ below (hp_Qi G rq zq) [.ref a0, .int x1, .int x2, .int x3, .int x4, .int x5].toArray s 0 0 (hp_A G)) (F0 m 454 ls [.int s0]) := by
    intro s0 z H locs ls h hP hS hl
    unfold f_X7_isPairBroken_B454 at h
    exact hw_zret X hP hS hr hlocks h dX7_isPairBroken_454
  have B453 : ∀ (z : hp_S) (H : Heap) (locs : List Loc) (ls : Array Slot), f_X7_isPairBroken_B453 fu a0 x1 x2 x3 x4 x5 z = some (rq, zq) → hp_P G z H → va_S (hp_A G) s.heap H locs → lv_has ls 7 [(0, .ref a0), (1, .int x1), (2, .int x2), (3, .int x3), (4, .int x4), (5, .int x5)] → W p l e (hp_rm 5 116 0 0) s m [.ref a0, .int x1, .int x2, .int x3, .int x4, .int x5].toArray below meth c H locs 0 0 (MQ below (hp_Qi G rq zq) [.ref a0, .int x1, .int x2, .int x3, .int x4, .int x5].toArray s 0 0 (hp_A G)) (F0 m 453 ls []) := by
    intro z H locs ls h hP hS hl
    unfold f_X7_isPairBroken_B453 at h
    refine lv_iconst (v := 0) hx hb dX7_isPairBroken_453 (by decide) ?_
    exact B454 0 z _ _ _ h hP hS (lv_sub hl [0, 1, 2, 3, 4, 5] rfl)
  have B449 : ∀ (z : hp_S) (H : Heap) (locs : List Loc) (ls : Array Slot), f_X7_isPairBroken_B449 fu a0 x1 x2 x3 x4 x5 z = some (rq, zq) → hp_P G z H → va_S (hp_A G) s.heap H locs → lv_has ls 7 [(0, .ref a0), (1, .int x1), (2, .int x2), (3, .int x3), (4, .int x4), (5, .int x5)] → W p l e (hp_rm 5 116 0 0) s m [.ref a0, .int x1, .int x2, .int x3, .int x4, .int x5].toArray below meth c H locs 0 0 (MQ below (hp_Qi G rq zq) [.ref a0, .int x1, .int x2, .int x3, .int x4, .int x5].toArray s 0 0 (hp_A G)) (F0 m 449 ls []) := by
    intro z H locs ls h hP hS hl
    unfold f_X7_isPairBroken_B449 at h
    refine lv_iconst (v := 1) hx hb dX7_isPairBroken_449 (by decide) ?_
    refine lv_goto (tgt := 454) hx hb dX7_isPairBroken_450 (by decide) ?_
    exact B454 1 z _ _ _ h hP hS (lv_sub hl [0, 1, 2, 3, 4, 5] rfl)
  have B548 : ∀ (s0 : Int32) (z : hp_S) (H : Heap) (locs : List Loc) (ls : Array Slot), f_X7_isPairBroken_B548 fu a0 x1 x2 x3 x4 x5 s0 z = some (rq, zq) → hp_P G z H → va_S (hp_A G) s.heap H locs → lv_has ls 7 [(0, .ref a0), (1, .int x1), (2, .int x2), (3, .int x3), (4, .int x4), (5, .int x5)] → W p l e (hp_rm 5 116 0 0) s m [.ref a0, .int x1, .int x2, .int x3, .int x4, .int x5].toArray below meth c H locs 0 0 (MQ below (hp_Qi G rq zq) [.ref a0, .int x1, .int x2, .int x3, .int x4, .int x5].toArray s 0 0 (hp_A G)) (F0 m 548 ls [.int s0]) := by
    intro s0 z H locs ls h hP hS hl
    unfold f_X7_isPairBroken_B548 at h
    exact hw_zret X hP hS hr hlocks h dX7_isPairBroken_548
  have B547 : ∀ (z : hp_S) (H : Heap) (locs : List Loc) (ls : Array Slot), f_X7_isPairBroken_B547 fu a0 x1 x2 x3 x4 x5 z = some (rq, zq) → hp_P G z H → va_S (hp_A G) s.heap H locs → lv_has ls 7 [(0, .ref a0), (1, .int x1), (2, .int x2), (3, .int x3), (4, .int x4), (5, .int x5)] → W p l e (hp_rm 5 116 0 0) s m [.ref a0, .int x1, .int x2, .int x3, .int x4, .int x5].toArray below meth c H locs 0 0 (MQ below (hp_Qi G rq zq) [.ref a0, .int x1, .int x2, .int x3, .int x4, .int x5].toArray s 0 0 (hp_A G)) (F0 m 547 ls []) := by
    intro z H locs ls h hP hS hl
    unfold f_X7_isPairBroken_B547 at h
    refine lv_iconst (v := 0) hx hb dX7_isPairBroken_547 (by decide) ?_
    exact B548 0 z _ _ _ h hP hS (lv_sub hl [0, 1, 2, 3, 4, 5] rfl)
  have B602 : ∀ (s0 : Int32) (z : hp_S) (H : Heap) (locs : List Loc) (ls : Array Slot), f_X7_isPairBroken_B602 fu a0 x1 x2 x3 x4 x5 s0 z = some (rq, zq) → hp_P G z H → va_S (hp_A G) s.heap H locs → lv_has ls 7 [(0, .ref a0), (1, .int x1), (2, .int x2), (3, .int x3), (4, .int x4), (5, .int x5)] → W p l e (hp_rm 5 116 0 0) s m [.ref a0, .int x1, .int x2, .int x3, .int x4, .int x5].toArray below meth c H locs 0 0 (MQ below (hp_Qi G rq zq) [.ref a0, .int x1, .int x2, .int x3, .int x4, .int x5].toArray s 0 0 (hp_A G)) (F0 m 602 ls [.int s0]) := by
    intro s0 z H locs ls h hP hS hl
    unfold f_X7_isPairBroken_B602 at h
    exact hw_zret X hP hS hr hlocks h dX7_isPairBroken_602
  have B601 : ∀ (z : hp_S) (H : Heap) (locs : List Loc) (ls : Array Slot), f_X7_isPairBroken_B601 fu a0 x1 x2 x3 x4 x5 z = some (rq, zq) → hp_P G z H → va_S (hp_A G) s.heap H locs → lv_has ls 7 [(0, .ref a0), (1, .int x1), (2, .int x2), (3, .int x3), (4, .int x4), (5, .int x5)] → W p l e (hp_rm 5 116 0 0) s m [.ref a0, .int x1, .int x2, .int x3, .int x4, .int x5].toArray below meth c H locs 0 0 (MQ below (hp_Qi G rq zq) [.ref a0, .int x1, .int x2, .int x3, .int x4, .int x5].toArray s 0 0 (hp_A G)) (F0 m 601 ls []) := by
    intro z H locs ls h hP hS hl
    unfold f_X7_isPairBroken_B601 at h
    refine lv_iconst (v := 0) hx hb dX7_isPairBroken_601 (by decide) ?_
    exact B602 0 z _ _ _ h hP hS (lv_sub hl [0, 1, 2, 3, 4, 5] rfl)
  unfold f_X7_isPairBroken at h
  refine lv_iload_n hx hb dX7_isPairBroken_0 rfl (lv_at hl 1 rfl) ?_
  by_cases hc0 : x1 = 0
  · replace h := ho_ip hc0 h
    refine lv_tableIn (tgt := 68) hx hb dX7_isPairBroken_1 (by rw [hc0]; decide) (by rw [hc0]; decide) (by rw [hc0]; rfl) (by decide) ?_
    refine lv_aload_n hx hb dX7_isPairBroken_68 rfl (lv_at hl 0 rfl) ?_
    refine lv_iload_n hx hb dX7_isPairBroken_69 rfl (lv_at hl 2 rfl) ?_
    refine lv_iload_n hx hb dX7_isPairBroken_70 rfl (lv_at hl 3 rfl) ?_
    refine lv_iload hx hb dX7_isPairBroken_71 (lv_at hl 4 rfl) ?_
    refine lv_iload hx hb dX7_isPairBroken_73 (lv_at hl 5 rfl) ?_
    obtain ⟨_, hs, h⟩ := ho_bd h
    obtain ⟨⟨v1, z⟩, q, h⟩ := ho_bd h
    refine hw_ci hS (hp_runV (As := [.int x2, .int x3, .int x4, .int x5]) (rest := []) X hP hS hl.1 LX7 (ho_is_s hs) kX7_130 ⟨m4_40, mp_33⟩ (c_X7_goAlike l G fu a0 x2 x3 x4 x5 _ _ _ q) rfl (Nat.le_of_ble_eq_true rfl) ⟨⟨Nat.le_of_ble_eq_true rfl, Nat.le_of_ble_eq_true rfl⟩, Nat.le_of_ble_eq_true rfl, Nat.le_of_ble_eq_true rfl⟩ dX7_isPairBroken_75) (fun H locs hP hS => ?_)
    refine lv_if_eq (tgt := 119) hx hb dX7_isPairBroken_78 (by decide) (fun hc => ?_) (fun hc => ?_)
    · replace h := ho_ip hc h
      exact B119 z _ _ _ h hP hS (lv_sub hl [0, 1, 2, 3, 4, 5] rfl)
    · replace h := ho_in hc h
      refine lv_aload_n hx hb dX7_isPairBroken_81 rfl (lv_at hl 0 rfl) ?_
      refine lv_aload_n hx hb dX7_isPairBroken_82 rfl (lv_at hl 0 rfl) ?_
      refine lv_iload_n hx hb dX7_isPairBroken_83 rfl (lv_at hl 2 rfl) ?_
      refine lv_iload_n hx hb dX7_isPairBroken_84 rfl (lv_at hl 3 rfl) ?_
      refine lv_iload hx hb dX7_isPairBroken_85 (lv_at hl 4 rfl) ?_
      obtain ⟨_, hs, h⟩ := ho_bd h
      obtain ⟨⟨v2, z⟩, q, h⟩ := ho_bd h
      refine hw_ci hS (hp_runV (As := [.int x2, .int x3, .int x4]) (rest := [.ref a0]) X hP hS hl.1 LX7 (ho_is_s hs) kX7_134 ⟨m4_56, mp_37⟩ (c_X7_which l G fu a0 x2 x3 x4 _ _ _ q) rfl (Nat.le_of_ble_eq_true rfl) ⟨⟨Nat.le_of_ble_eq_true rfl, Nat.le_of_ble_eq_true rfl⟩, Nat.le_of_ble_eq_true rfl, Nat.le_of_ble_eq_true rfl⟩ dX7_isPairBroken_87) (fun H locs hP hS => ?_)
      obtain ⟨_, hs, h⟩ := ho_bd h
      obtain ⟨⟨v3, z⟩, q, h⟩ := ho_bd h
      refine hw_ci hS (hp_runV (As := [.int v2]) (rest := []) X hP hS hl.1 LX7 (ho_is_s hs) kX7_137 ⟨m4_60, mp_38⟩ (c_X7_isPure l G fu a0 v2 _ _ _ q) rfl (Nat.le_of_ble_eq_true rfl) ⟨⟨Nat.le_of_ble_eq_true rfl, Nat.le_of_ble_eq_true rfl⟩, Nat.le_of_ble_eq_true rfl, Nat.le_of_ble_eq_true rfl⟩ dX7_isPairBroken_90) (fun H locs hP hS => ?_)
      refine lv_if_eq (tgt := 119) hx hb dX7_isPairBroken_93 (by decide) (fun hc => ?_) (fun hc => ?_)
      · replace h := ho_ip hc h
        exact B119 z _ _ _ h hP hS (lv_sub hl [0, 1, 2, 3, 4, 5] rfl)
      · replace h := ho_in hc h
        refine lv_aload_n hx hb dX7_isPairBroken_96 rfl (lv_at hl 0 rfl) ?_
        refine lv_iload_n hx hb dX7_isPairBroken_97 rfl (lv_at hl 2 rfl) ?_
        refine lv_iload_n hx hb dX7_isPairBroken_98 rfl (lv_at hl 3 rfl) ?_
        refine lv_iload hx hb dX7_isPairBroken_99 (lv_at hl 4 rfl) ?_
        obtain ⟨_, hs, h⟩ := ho_bd h
        obtain ⟨⟨v4, z⟩, q, h⟩ := ho_bd h
        refine hw_ci hS (hp_runV (As := [.int x2, .int x3, .int x4]) (rest := []) X hP hS hl.1 LX7 (ho_is_s hs) kX7_134 ⟨m4_56, mp_37⟩ (c_X7_which l G fu a0 x2 x3 x4 _ _ _ q) rfl (Nat.le_of_ble_eq_true rfl) ⟨⟨Nat.le_of_ble_eq_true rfl, Nat.le_of_ble_eq_true rfl⟩, Nat.le_of_ble_eq_true rfl, Nat.le_of_ble_eq_true rfl⟩ dX7_isPairBroken_101) (fun H locs hP hS => ?_)
        refine lv_aload_n hx hb dX7_isPairBroken_104 rfl (lv_at hl 0 rfl) ?_
        refine lv_iload_n hx hb dX7_isPairBroken_105 rfl (lv_at hl 2 rfl) ?_
        refine lv_iload_n hx hb dX7_isPairBroken_106 rfl (lv_at hl 3 rfl) ?_
        refine lv_iload hx hb dX7_isPairBroken_107 (lv_at hl 5 rfl) ?_
        obtain ⟨_, hs, h⟩ := ho_bd h
        obtain ⟨⟨v5, z⟩, q, h⟩ := ho_bd h
        refine hw_ci hS (hp_runV (As := [.int x2, .int x3, .int x5]) (rest := [.int v4]) X hP hS hl.1 LX7 (ho_is_s hs) kX7_134 ⟨m4_56, mp_37⟩ (c_X7_which l G fu a0 x2 x3 x5 _ _ _ q) rfl (Nat.le_of_ble_eq_true rfl) ⟨⟨Nat.le_of_ble_eq_true rfl, Nat.le_of_ble_eq_true rfl⟩, Nat.le_of_ble_eq_true rfl, Nat.le_of_ble_eq_true rfl⟩ dX7_isPairBroken_109) (fun H locs hP hS => ?_)
        refine lv_icmp_ne (tgt := 119) hx hb dX7_isPairBroken_112 (by decide) (fun hc => ?_) (fun hc => ?_)
        · replace h := ho_in hc h
          exact B119 z _ _ _ h hP hS (lv_sub hl [0, 1, 2, 3, 4, 5] rfl)
        · replace h := ho_ip hc h
          refine lv_iconst (v := 1) hx hb dX7_isPairBroken_115 (by decide) ?_
          refine lv_goto (tgt := 120) hx hb dX7_isPairBroken_116 (by decide) ?_
          exact B120 1 z _ _ _ h hP hS (lv_sub hl [0, 1, 2, 3, 4, 5] rfl)
  replace h := ho_in hc0 h
  by_cases hc1 : x1 = 1
  · replace h := ho_ip hc1 h
    refine lv_tableIn (tgt := 121) hx hb dX7_isPairBroken_1 (by rw [hc1]; decide) (by rw [hc1]; decide) (by rw [hc1]; rfl) (by decide) ?_
    refine lv_aload_n hx hb dX7_isPairBroken_121 rfl (lv_at hl 0 rfl) ?_
    refine lv_iload_n hx hb dX7_isPairBroken_122 rfl (lv_at hl 2 rfl) ?_
    refine lv_iload hx hb dX7_isPairBroken_123 (lv_at hl 4 rfl) ?_
    refine lv_iload hx hb dX7_isPairBroken_125 (lv_at hl 5 rfl) ?_
    obtain ⟨_, hs, h⟩ := ho_bd h
    obtain ⟨⟨v6, z⟩, q, h⟩ := ho_bd h
    refine hw_ci hS (hp_runV (As := [.int x2, .int x4, .int x5]) (rest := []) X hP hS hl.1 LX7 (ho_is_s hs) kX7_127 ⟨m4_44, mp_34⟩ (c_X7_way l G fu a0 x2 x4 x5 _ _ _ q) rfl (Nat.le_of_ble_eq_true rfl) ⟨⟨Nat.le_of_ble_eq_true rfl, Nat.le_of_ble_eq_true rfl⟩, Nat.le_of_ble_eq_true rfl, Nat.le_of_ble_eq_true rfl⟩ dX7_isPairBroken_127) (fun H locs hP hS => ?_)
    refine lv_aload_n hx hb dX7_isPairBroken_130 rfl (lv_at hl 0 rfl) ?_
    refine lv_iload_n hx hb dX7_isPairBroken_131 rfl (lv_at hl 3 rfl) ?_
    refine lv_iload hx hb dX7_isPairBroken_132 (lv_at hl 4 rfl) ?_
    refine lv_iload hx hb dX7_isPairBroken_134 (lv_at hl 5 rfl) ?_
    obtain ⟨_, hs, h⟩ := ho_bd h
    obtain ⟨⟨v7, z⟩, q, h⟩ := ho_bd h
    refine hw_ci hS (hp_runV (As := [.int x3, .int x4, .int x5]) (rest := [.int v6]) X hP hS hl.1 LX7 (ho_is_s hs) kX7_127 ⟨m4_44, mp_34⟩ (c_X7_way l G fu a0 x3 x4 x5 _ _ _ q) rfl (Nat.le_of_ble_eq_true rfl) ⟨⟨Nat.le_of_ble_eq_true rfl, Nat.le_of_ble_eq_true rfl⟩, Nat.le_of_ble_eq_true rfl, Nat.le_of_ble_eq_true rfl⟩ dX7_isPairBroken_136) (fun H locs hP hS => ?_)
    refine lv_imul hx hb dX7_isPairBroken_139 ?_
    refine lv_iconst (v := (-1)) hx hb dX7_isPairBroken_140 (by decide) ?_
    refine lv_icmp_ne (tgt := 182) hx hb dX7_isPairBroken_141 (by decide) (fun hc => ?_) (fun hc => ?_)
    · replace h := ho_in hc h
      exact B182 z _ _ _ h hP hS (lv_sub hl [0, 1, 2, 3, 4, 5] rfl)
    · replace h := ho_ip hc h
      refine lv_aload_n hx hb dX7_isPairBroken_144 rfl (lv_at hl 0 rfl) ?_
      refine lv_aload_n hx hb dX7_isPairBroken_145 rfl (lv_at hl 0 rfl) ?_
      refine lv_iload_n hx hb dX7_isPairBroken_146 rfl (lv_at hl 2 rfl) ?_
      refine lv_iload_n hx hb dX7_isPairBroken_147 rfl (lv_at hl 3 rfl) ?_
      refine lv_iload hx hb dX7_isPairBroken_148 (lv_at hl 4 rfl) ?_
      obtain ⟨_, hs, h⟩ := ho_bd h
      obtain ⟨⟨v8, z⟩, q, h⟩ := ho_bd h
      refine hw_ci hS (hp_runV (As := [.int x2, .int x3, .int x4]) (rest := [.ref a0]) X hP hS hl.1 LX7 (ho_is_s hs) kX7_134 ⟨m4_56, mp_37⟩ (c_X7_which l G fu a0 x2 x3 x4 _ _ _ q) rfl (Nat.le_of_ble_eq_true rfl) ⟨⟨Nat.le_of_ble_eq_true rfl, Nat.le_of_ble_eq_true rfl⟩, Nat.le_of_ble_eq_true rfl, Nat.le_of_ble_eq_true rfl⟩ dX7_isPairBroken_150) (fun H locs hP hS => ?_)
      obtain ⟨_, hs, h⟩ := ho_bd h
      obtain ⟨⟨v9, z⟩, q, h⟩ := ho_bd h
      refine hw_ci hS (hp_runV (As := [.int v8]) (rest := []) X hP hS hl.1 LX7 (ho_is_s hs) kX7_137 ⟨m4_60, mp_38⟩ (c_X7_isPure l G fu a0 v8 _ _ _ q) rfl (Nat.le_of_ble_eq_true rfl) ⟨⟨Nat.le_of_ble_eq_true rfl, Nat.le_of_ble_eq_true rfl⟩, Nat.le_of_ble_eq_true rfl, Nat.le_of_ble_eq_true rfl⟩ dX7_isPairBroken_153) (fun H locs hP hS => ?_)
      refine lv_if_eq (tgt := 182) hx hb dX7_isPairBroken_156 (by decide) (fun hc => ?_) (fun hc => ?_)
      · replace h := ho_ip hc h
        exact B182 z _ _ _ h hP hS (lv_sub hl [0, 1, 2, 3, 4, 5] rfl)
      · replace h := ho_in hc h
        refine lv_aload_n hx hb dX7_isPairBroken_159 rfl (lv_at hl 0 rfl) ?_
        refine lv_iload_n hx hb dX7_isPairBroken_160 rfl (lv_at hl 2 rfl) ?_
        refine lv_iload_n hx hb dX7_isPairBroken_161 rfl (lv_at hl 3 rfl) ?_
        refine lv_iload hx hb dX7_isPairBroken_162 (lv_at hl 4 rfl) ?_
        obtain ⟨_, hs, h⟩ := ho_bd h
        obtain ⟨⟨v10, z⟩, q, h⟩ := ho_bd h
        refine hw_ci hS (hp_runV (As := [.int x2, .int x3, .int x4]) (rest := []) X hP hS hl.1 LX7 (ho_is_s hs) kX7_134 ⟨m4_56, mp_37⟩ (c_X7_which l G fu a0 x2 x3 x4 _ _ _ q) rfl (Nat.le_of_ble_eq_true rfl) ⟨⟨Nat.le_of_ble_eq_true rfl, Nat.le_of_ble_eq_true rfl⟩, Nat.le_of_ble_eq_true rfl, Nat.le_of_ble_eq_true rfl⟩ dX7_isPairBroken_164) (fun H locs hP hS => ?_)
        refine lv_aload_n hx hb dX7_isPairBroken_167 rfl (lv_at hl 0 rfl) ?_
        refine lv_iload_n hx hb dX7_isPairBroken_168 rfl (lv_at hl 2 rfl) ?_
        refine lv_iload_n hx hb dX7_isPairBroken_169 rfl (lv_at hl 3 rfl) ?_
        refine lv_iload hx hb dX7_isPairBroken_170 (lv_at hl 5 rfl) ?_
        obtain ⟨_, hs, h⟩ := ho_bd h
        obtain ⟨⟨v11, z⟩, q, h⟩ := ho_bd h
        refine hw_ci hS (hp_runV (As := [.int x2, .int x3, .int x5]) (rest := [.int v10]) X hP hS hl.1 LX7 (ho_is_s hs) kX7_134 ⟨m4_56, mp_37⟩ (c_X7_which l G fu a0 x2 x3 x5 _ _ _ q) rfl (Nat.le_of_ble_eq_true rfl) ⟨⟨Nat.le_of_ble_eq_true rfl, Nat.le_of_ble_eq_true rfl⟩, Nat.le_of_ble_eq_true rfl, Nat.le_of_ble_eq_true rfl⟩ dX7_isPairBroken_172) (fun H locs hP hS => ?_)
        refine lv_icmp_ne (tgt := 182) hx hb dX7_isPairBroken_175 (by decide) (fun hc => ?_) (fun hc => ?_)
        · replace h := ho_in hc h
          exact B182 z _ _ _ h hP hS (lv_sub hl [0, 1, 2, 3, 4, 5] rfl)
        · replace h := ho_ip hc h
          refine lv_iconst (v := 1) hx hb dX7_isPairBroken_178 (by decide) ?_
          refine lv_goto (tgt := 183) hx hb dX7_isPairBroken_179 (by decide) ?_
          exact B183 1 z _ _ _ h hP hS (lv_sub hl [0, 1, 2, 3, 4, 5] rfl)
  replace h := ho_in hc1 h
  by_cases hc2 : x1 = 2
  · replace h := ho_ip hc2 h
    refine lv_tableIn (tgt := 184) hx hb dX7_isPairBroken_1 (by rw [hc2]; decide) (by rw [hc2]; decide) (by rw [hc2]; rfl) (by decide) ?_
    refine lv_aload_n hx hb dX7_isPairBroken_184 rfl (lv_at hl 0 rfl) ?_
    refine lv_iload_n hx hb dX7_isPairBroken_185 rfl (lv_at hl 2 rfl) ?_
    refine lv_iload_n hx hb dX7_isPairBroken_186 rfl (lv_at hl 3 rfl) ?_
    refine lv_iload hx hb dX7_isPairBroken_187 (lv_at hl 4 rfl) ?_
    refine lv_iload hx hb dX7_isPairBroken_189 (lv_at hl 5 rfl) ?_
    obtain ⟨_, hs, h⟩ := ho_bd h
    obtain ⟨⟨v12, z⟩, q, h⟩ := ho_bd h
    refine hw_ci hS (hp_runV (As := [.int x2, .int x3, .int x4, .int x5]) (rest := []) X hP hS hl.1 LX7 (ho_is_s hs) kX7_130 ⟨m4_40, mp_33⟩ (c_X7_goAlike l G fu a0 x2 x3 x4 x5 _ _ _ q) rfl (Nat.le_of_ble_eq_true rfl) ⟨⟨Nat.le_of_ble_eq_true rfl, Nat.le_of_ble_eq_true rfl⟩, Nat.le_of_ble_eq_true rfl, Nat.le_of_ble_eq_true rfl⟩ dX7_isPairBroken_191) (fun H locs hP hS => ?_)
    refine lv_if_eq (tgt := 231) hx hb dX7_isPairBroken_194 (by decide) (fun hc => ?_) (fun hc => ?_)
    · replace h := ho_ip hc h
      exact B231 z _ _ _ h hP hS (lv_sub hl [0, 1, 2, 3, 4, 5] rfl)
    · replace h := ho_in hc h
      refine lv_aload_n hx hb dX7_isPairBroken_197 rfl (lv_at hl 0 rfl) ?_
      refine lv_aload_n hx hb dX7_isPairBroken_198 rfl (lv_at hl 0 rfl) ?_
      refine lv_iload_n hx hb dX7_isPairBroken_199 rfl (lv_at hl 2 rfl) ?_
      refine lv_iload_n hx hb dX7_isPairBroken_200 rfl (lv_at hl 3 rfl) ?_
      refine lv_iload hx hb dX7_isPairBroken_201 (lv_at hl 5 rfl) ?_
      obtain ⟨_, hs, h⟩ := ho_bd h
      obtain ⟨⟨v13, z⟩, q, h⟩ := ho_bd h
      refine hw_ci hS (hp_runV (As := [.int x2, .int x3, .int x5]) (rest := [.ref a0]) X hP hS hl.1 LX7 (ho_is_s hs) kX7_134 ⟨m4_56, mp_37⟩ (c_X7_which l G fu a0 x2 x3 x5 _ _ _ q) rfl (Nat.le_of_ble_eq_true rfl) ⟨⟨Nat.le_of_ble_eq_true rfl, Nat.le_of_ble_eq_true rfl⟩, Nat.le_of_ble_eq_true rfl, Nat.le_of_ble_eq_true rfl⟩ dX7_isPairBroken_203) (fun H locs hP hS => ?_)
      obtain ⟨_, hs, h⟩ := ho_bd h
      obtain ⟨⟨v14, z⟩, q, h⟩ := ho_bd h
      refine hw_ci hS (hp_runV (As := [.int v13]) (rest := []) X hP hS hl.1 LX7 (ho_is_s hs) kX7_137 ⟨m4_60, mp_38⟩ (c_X7_isPure l G fu a0 v13 _ _ _ q) rfl (Nat.le_of_ble_eq_true rfl) ⟨⟨Nat.le_of_ble_eq_true rfl, Nat.le_of_ble_eq_true rfl⟩, Nat.le_of_ble_eq_true rfl, Nat.le_of_ble_eq_true rfl⟩ dX7_isPairBroken_206) (fun H locs hP hS => ?_)
      refine lv_if_eq (tgt := 231) hx hb dX7_isPairBroken_209 (by decide) (fun hc => ?_) (fun hc => ?_)
      · replace h := ho_ip hc h
        exact B231 z _ _ _ h hP hS (lv_sub hl [0, 1, 2, 3, 4, 5] rfl)
      · replace h := ho_in hc h
        refine lv_aload_n hx hb dX7_isPairBroken_212 rfl (lv_at hl 0 rfl) ?_
        refine lv_iload_n hx hb dX7_isPairBroken_213 rfl (lv_at hl 2 rfl) ?_
        refine lv_iload_n hx hb dX7_isPairBroken_214 rfl (lv_at hl 3 rfl) ?_
        refine lv_iload hx hb dX7_isPairBroken_215 (lv_at hl 4 rfl) ?_
        obtain ⟨_, hs, h⟩ := ho_bd h
        obtain ⟨⟨v15, z⟩, q, h⟩ := ho_bd h
        refine hw_ci hS (hp_runV (As := [.int x2, .int x3, .int x4]) (rest := []) X hP hS hl.1 LX7 (ho_is_s hs) kX7_134 ⟨m4_56, mp_37⟩ (c_X7_which l G fu a0 x2 x3 x4 _ _ _ q) rfl (Nat.le_of_ble_eq_true rfl) ⟨⟨Nat.le_of_ble_eq_true rfl, Nat.le_of_ble_eq_true rfl⟩, Nat.le_of_ble_eq_true rfl, Nat.le_of_ble_eq_true rfl⟩ dX7_isPairBroken_217) (fun H locs hP hS => ?_)
        refine lv_aload_n hx hb dX7_isPairBroken_220 rfl (lv_at hl 0 rfl) ?_
        refine lv_iload_n hx hb dX7_isPairBroken_221 rfl (lv_at hl 2 rfl) ?_
        refine lv_iload_n hx hb dX7_isPairBroken_222 rfl (lv_at hl 3 rfl) ?_
        refine lv_iload hx hb dX7_isPairBroken_223 (lv_at hl 5 rfl) ?_
        obtain ⟨_, hs, h⟩ := ho_bd h
        obtain ⟨⟨v16, z⟩, q, h⟩ := ho_bd h
        refine hw_ci hS (hp_runV (As := [.int x2, .int x3, .int x5]) (rest := [.int v15]) X hP hS hl.1 LX7 (ho_is_s hs) kX7_134 ⟨m4_56, mp_37⟩ (c_X7_which l G fu a0 x2 x3 x5 _ _ _ q) rfl (Nat.le_of_ble_eq_true rfl) ⟨⟨Nat.le_of_ble_eq_true rfl, Nat.le_of_ble_eq_true rfl⟩, Nat.le_of_ble_eq_true rfl, Nat.le_of_ble_eq_true rfl⟩ dX7_isPairBroken_225) (fun H locs hP hS => ?_)
        refine lv_icmp_ne (tgt := 233) hx hb dX7_isPairBroken_228 (by decide) (fun hc => ?_) (fun hc => ?_)
        · replace h := ho_in hc h
          refine lv_aload_n hx hb dX7_isPairBroken_233 rfl (lv_at hl 0 rfl) ?_
          refine lv_aload_n hx hb dX7_isPairBroken_234 rfl (lv_at hl 0 rfl) ?_
          refine lv_iload_n hx hb dX7_isPairBroken_235 rfl (lv_at hl 3 rfl) ?_
          refine lv_iload hx hb dX7_isPairBroken_236 (lv_at hl 5 rfl) ?_
          obtain ⟨_, hs, h⟩ := ho_bd h
          obtain ⟨⟨v17, z⟩, q, h⟩ := ho_bd h
          refine hw_ci hS (hp_runV (As := [.int x3, .int x5]) (rest := [.ref a0]) X hP hS hl.1 LX7 (ho_is_s hs) kX7_110 ⟨m4_21, mp_29⟩ (c_X7_at l G fu a0 x3 x5 _ _ _ q) rfl (Nat.le_of_ble_eq_true rfl) ⟨⟨Nat.le_of_ble_eq_true rfl, Nat.le_of_ble_eq_true rfl⟩, Nat.le_of_ble_eq_true rfl, Nat.le_of_ble_eq_true rfl⟩ dX7_isPairBroken_238) (fun H locs hP hS => ?_)
          obtain ⟨_, hs, h⟩ := ho_bd h
          obtain ⟨⟨v18, z⟩, q, h⟩ := ho_bd h
          refine hw_ci hS (hp_runV (As := [.int v17]) (rest := []) X hP hS hl.1 LX7 (ho_is_s hs) kX7_97 ⟨m3_215, mp_23⟩ (c_X7_heightOf l G fu a0 v17 _ _ _ q) rfl (Nat.le_of_ble_eq_true rfl) ⟨⟨Nat.le_of_ble_eq_true rfl, Nat.le_of_ble_eq_true rfl⟩, Nat.le_of_ble_eq_true rfl, Nat.le_of_ble_eq_true rfl⟩ dX7_isPairBroken_241) (fun H locs hP hS => ?_)
          refine lv_aload_n hx hb dX7_isPairBroken_244 rfl (lv_at hl 0 rfl) ?_
          refine lv_aload_n hx hb dX7_isPairBroken_245 rfl (lv_at hl 0 rfl) ?_
          refine lv_iload_n hx hb dX7_isPairBroken_246 rfl (lv_at hl 3 rfl) ?_
          refine lv_iload hx hb dX7_isPairBroken_247 (lv_at hl 4 rfl) ?_
          obtain ⟨_, hs, h⟩ := ho_bd h
          obtain ⟨⟨v19, z⟩, q, h⟩ := ho_bd h
          refine hw_ci hS (hp_runV (As := [.int x3, .int x4]) (rest := [.ref a0, .int v18]) X hP hS hl.1 LX7 (ho_is_s hs) kX7_110 ⟨m4_21, mp_29⟩ (c_X7_at l G fu a0 x3 x4 _ _ _ q) rfl (Nat.le_of_ble_eq_true rfl) ⟨⟨Nat.le_of_ble_eq_true rfl, Nat.le_of_ble_eq_true rfl⟩, Nat.le_of_ble_eq_true rfl, Nat.le_of_ble_eq_true rfl⟩ dX7_isPairBroken_249) (fun H locs hP hS => ?_)
          obtain ⟨_, hs, h⟩ := ho_bd h
          obtain ⟨⟨v20, z⟩, q, h⟩ := ho_bd h
          refine hw_ci hS (hp_runV (As := [.int v19]) (rest := [.int v18]) X hP hS hl.1 LX7 (ho_is_s hs) kX7_97 ⟨m3_215, mp_23⟩ (c_X7_heightOf l G fu a0 v19 _ _ _ q) rfl (Nat.le_of_ble_eq_true rfl) ⟨⟨Nat.le_of_ble_eq_true rfl, Nat.le_of_ble_eq_true rfl⟩, Nat.le_of_ble_eq_true rfl, Nat.le_of_ble_eq_true rfl⟩ dX7_isPairBroken_252) (fun H locs hP hS => ?_)
          refine lv_isub hx hb dX7_isPairBroken_255 ?_
          obtain ⟨v21, q, h⟩ := ho_bd h
          refine hw_id q ?_
          refine lv_istore (lv' := [(6, .int v21), (0, .ref a0), (1, .int x1), (2, .int x2), (3, .int x3), (4, .int x4), (5, .int x5)]) hx hb dX7_isPairBroken_256 hl (by decide) rfl (fun ls hl => ?_)
          refine lv_iload hx hb dX7_isPairBroken_258 (lv_at hl 0 rfl) ?_
          refine lv_iconst (v := 2) hx hb dX7_isPairBroken_260 (by decide) ?_
          refine lv_icmp_gt (tgt := 271) hx hb dX7_isPairBroken_261 (by decide) (fun hc => ?_) (fun hc => ?_)
          · replace h := ho_ip hc h
            exact B271 z _ _ _ h hP hS (lv_sub hl [1, 2, 3, 4, 5, 6] rfl)
          · replace h := ho_in hc h
            refine lv_iload hx hb dX7_isPairBroken_264 (lv_at hl 0 rfl) ?_
            refine lv_bipush (v := (-2)) hx hb dX7_isPairBroken_266 (by decide) ?_
            refine lv_icmp_ge (tgt := 275) hx hb dX7_isPairBroken_268 (by decide) (fun hc => ?_) (fun hc => ?_)
            · replace h := ho_ip hc h
              refine lv_iconst (v := 0) hx hb dX7_isPairBroken_275 (by decide) ?_
              exact B276 0 z _ _ _ h hP hS (lv_sub hl [1, 2, 3, 4, 5, 6] rfl)
            · replace h := ho_in hc h
              exact B271 z _ _ _ h hP hS (lv_sub hl [1, 2, 3, 4, 5, 6] rfl)
        · replace h := ho_ip hc h
          exact B231 z _ _ _ h hP hS (lv_sub hl [0, 1, 2, 3, 4, 5] rfl)
  replace h := ho_in hc2 h
  by_cases hc3 : x1 = 3
  · replace h := ho_ip hc3 h
    refine lv_tableIn (tgt := 603) hx hb dX7_isPairBroken_1 (by rw [hc3]; decide) (by rw [hc3]; decide) (by rw [hc3]; rfl) (by decide) ?_
    refine lv_iconst (v := 0) hx hb dX7_isPairBroken_603 (by decide) ?_
    exact hw_zret X hP hS hr hlocks h dX7_isPairBroken_604
  replace h := ho_in hc3 h
  by_cases hc4 : x1 = 4
  · replace h := ho_ip hc4 h
    refine lv_tableIn (tgt := 277) hx hb dX7_isPairBroken_1 (by rw [hc4]; decide) (by rw [hc4]; decide) (by rw [hc4]; rfl) (by decide) ?_
    refine lv_aload_n hx hb dX7_isPairBroken_277 rfl (lv_at hl 0 rfl) ?_
    refine lv_iload_n hx hb dX7_isPairBroken_278 rfl (lv_at hl 2 rfl) ?_
    refine lv_iload hx hb dX7_isPairBroken_279 (lv_at hl 4 rfl) ?_
    refine lv_iload hx hb dX7_isPairBroken_281 (lv_at hl 5 rfl) ?_
    obtain ⟨_, hs, h⟩ := ho_bd h
    obtain ⟨⟨v22, z⟩, q, h⟩ := ho_bd h
    refine hw_ci hS (hp_runV (As := [.int x2, .int x4, .int x5]) (rest := []) X hP hS hl.1 LX7 (ho_is_s hs) kX7_121 ⟨m4_52, mp_36⟩ (c_X7_goes l G fu a0 x2 x4 x5 _ _ _ q) rfl (Nat.le_of_ble_eq_true rfl) ⟨⟨Nat.le_of_ble_eq_true rfl, Nat.le_of_ble_eq_true rfl⟩, Nat.le_of_ble_eq_true rfl, Nat.le_of_ble_eq_true rfl⟩ dX7_isPairBroken_283) (fun H locs hP hS => ?_)
    refine lv_if_eq (tgt := 355) hx hb dX7_isPairBroken_286 (by decide) (fun hc => ?_) (fun hc => ?_)
    · replace h := ho_ip hc h
      exact B355 z _ _ _ h hP hS (lv_sub hl [0, 1, 2, 3, 4, 5] rfl)
    · replace h := ho_in hc h
      refine lv_aload_n hx hb dX7_isPairBroken_289 rfl (lv_at hl 0 rfl) ?_
      refine lv_iload_n hx hb dX7_isPairBroken_290 rfl (lv_at hl 3 rfl) ?_
      refine lv_iload hx hb dX7_isPairBroken_291 (lv_at hl 4 rfl) ?_
      refine lv_iload hx hb dX7_isPairBroken_293 (lv_at hl 5 rfl) ?_
      obtain ⟨_, hs, h⟩ := ho_bd h
      obtain ⟨⟨v23, z⟩, q, h⟩ := ho_bd h
      refine hw_ci hS (hp_runV (As := [.int x3, .int x4, .int x5]) (rest := []) X hP hS hl.1 LX7 (ho_is_s hs) kX7_121 ⟨m4_52, mp_36⟩ (c_X7_goes l G fu a0 x3 x4 x5 _ _ _ q) rfl (Nat.le_of_ble_eq_true rfl) ⟨⟨Nat.le_of_ble_eq_true rfl, Nat.le_of_ble_eq_true rfl⟩, Nat.le_of_ble_eq_true rfl, Nat.le_of_ble_eq_true rfl⟩ dX7_isPairBroken_295) (fun H locs hP hS => ?_)
      refine lv_if_eq (tgt := 355) hx hb dX7_isPairBroken_298 (by decide) (fun hc => ?_) (fun hc => ?_)
      · replace h := ho_ip hc h
        exact B355 z _ _ _ h hP hS (lv_sub hl [0, 1, 2, 3, 4, 5] rfl)
      · replace h := ho_in hc h
        refine lv_aload_n hx hb dX7_isPairBroken_301 rfl (lv_at hl 0 rfl) ?_
        refine lv_aload_n hx hb dX7_isPairBroken_302 rfl (lv_at hl 0 rfl) ?_
        refine lv_iload_n hx hb dX7_isPairBroken_303 rfl (lv_at hl 2 rfl) ?_
        refine lv_iload hx hb dX7_isPairBroken_304 (lv_at hl 5 rfl) ?_
        obtain ⟨_, hs, h⟩ := ho_bd h
        obtain ⟨⟨v24, z⟩, q, h⟩ := ho_bd h
        refine hw_ci hS (hp_runV (As := [.int x2, .int x5]) (rest := [.ref a0]) X hP hS hl.1 LX7 (ho_is_s hs) kX7_110 ⟨m4_21, mp_29⟩ (c_X7_at l G fu a0 x2 x5 _ _ _ q) rfl (Nat.le_of_ble_eq_true rfl) ⟨⟨Nat.le_of_ble_eq_true rfl, Nat.le_of_ble_eq_true rfl⟩, Nat.le_of_ble_eq_true rfl, Nat.le_of_ble_eq_true rfl⟩ dX7_isPairBroken_306) (fun H locs hP hS => ?_)
        obtain ⟨_, hs, h⟩ := ho_bd h
        obtain ⟨⟨v25, z⟩, q, h⟩ := ho_bd h
        refine hw_ci hS (hp_runV (As := [.int v24]) (rest := []) X hP hS hl.1 LX7 (ho_is_s hs) kX7_97 ⟨m3_215, mp_23⟩ (c_X7_heightOf l G fu a0 v24 _ _ _ q) rfl (Nat.le_of_ble_eq_true rfl) ⟨⟨Nat.le_of_ble_eq_true rfl, Nat.le_of_ble_eq_true rfl⟩, Nat.le_of_ble_eq_true rfl, Nat.le_of_ble_eq_true rfl⟩ dX7_isPairBroken_309) (fun H locs hP hS => ?_)
        refine lv_aload_n hx hb dX7_isPairBroken_312 rfl (lv_at hl 0 rfl) ?_
        refine lv_aload_n hx hb dX7_isPairBroken_313 rfl (lv_at hl 0 rfl) ?_
        refine lv_iload_n hx hb dX7_isPairBroken_314 rfl (lv_at hl 3 rfl) ?_
        refine lv_iload hx hb dX7_isPairBroken_315 (lv_at hl 4 rfl) ?_
        obtain ⟨_, hs, h⟩ := ho_bd h
        obtain ⟨⟨v26, z⟩, q, h⟩ := ho_bd h
        refine hw_ci hS (hp_runV (As := [.int x3, .int x4]) (rest := [.ref a0, .int v25]) X hP hS hl.1 LX7 (ho_is_s hs) kX7_110 ⟨m4_21, mp_29⟩ (c_X7_at l G fu a0 x3 x4 _ _ _ q) rfl (Nat.le_of_ble_eq_true rfl) ⟨⟨Nat.le_of_ble_eq_true rfl, Nat.le_of_ble_eq_true rfl⟩, Nat.le_of_ble_eq_true rfl, Nat.le_of_ble_eq_true rfl⟩ dX7_isPairBroken_317) (fun H locs hP hS => ?_)
        obtain ⟨_, hs, h⟩ := ho_bd h
        obtain ⟨⟨v27, z⟩, q, h⟩ := ho_bd h
        refine hw_ci hS (hp_runV (As := [.int v26]) (rest := [.int v25]) X hP hS hl.1 LX7 (ho_is_s hs) kX7_97 ⟨m3_215, mp_23⟩ (c_X7_heightOf l G fu a0 v26 _ _ _ q) rfl (Nat.le_of_ble_eq_true rfl) ⟨⟨Nat.le_of_ble_eq_true rfl, Nat.le_of_ble_eq_true rfl⟩, Nat.le_of_ble_eq_true rfl, Nat.le_of_ble_eq_true rfl⟩ dX7_isPairBroken_320) (fun H locs hP hS => ?_)
        refine lv_icmp_gt (tgt := 351) hx hb dX7_isPairBroken_323 (by decide) (fun hc => ?_) (fun hc => ?_)
        · replace h := ho_ip hc h
          exact B351 z _ _ _ h hP hS (lv_sub hl [0, 1, 2, 3, 4, 5] rfl)
        · replace h := ho_in hc h
          refine lv_aload_n hx hb dX7_isPairBroken_326 rfl (lv_at hl 0 rfl) ?_
          refine lv_aload_n hx hb dX7_isPairBroken_327 rfl (lv_at hl 0 rfl) ?_
          refine lv_iload_n hx hb dX7_isPairBroken_328 rfl (lv_at hl 3 rfl) ?_
          refine lv_iload hx hb dX7_isPairBroken_329 (lv_at hl 5 rfl) ?_
          obtain ⟨_, hs, h⟩ := ho_bd h
          obtain ⟨⟨v28, z⟩, q, h⟩ := ho_bd h
          refine hw_ci hS (hp_runV (As := [.int x3, .int x5]) (rest := [.ref a0]) X hP hS hl.1 LX7 (ho_is_s hs) kX7_110 ⟨m4_21, mp_29⟩ (c_X7_at l G fu a0 x3 x5 _ _ _ q) rfl (Nat.le_of_ble_eq_true rfl) ⟨⟨Nat.le_of_ble_eq_true rfl, Nat.le_of_ble_eq_true rfl⟩, Nat.le_of_ble_eq_true rfl, Nat.le_of_ble_eq_true rfl⟩ dX7_isPairBroken_331) (fun H locs hP hS => ?_)
          obtain ⟨_, hs, h⟩ := ho_bd h
          obtain ⟨⟨v29, z⟩, q, h⟩ := ho_bd h
          refine hw_ci hS (hp_runV (As := [.int v28]) (rest := []) X hP hS hl.1 LX7 (ho_is_s hs) kX7_97 ⟨m3_215, mp_23⟩ (c_X7_heightOf l G fu a0 v28 _ _ _ q) rfl (Nat.le_of_ble_eq_true rfl) ⟨⟨Nat.le_of_ble_eq_true rfl, Nat.le_of_ble_eq_true rfl⟩, Nat.le_of_ble_eq_true rfl, Nat.le_of_ble_eq_true rfl⟩ dX7_isPairBroken_334) (fun H locs hP hS => ?_)
          refine lv_aload_n hx hb dX7_isPairBroken_337 rfl (lv_at hl 0 rfl) ?_
          refine lv_aload_n hx hb dX7_isPairBroken_338 rfl (lv_at hl 0 rfl) ?_
          refine lv_iload_n hx hb dX7_isPairBroken_339 rfl (lv_at hl 2 rfl) ?_
          refine lv_iload hx hb dX7_isPairBroken_340 (lv_at hl 4 rfl) ?_
          obtain ⟨_, hs, h⟩ := ho_bd h
          obtain ⟨⟨v30, z⟩, q, h⟩ := ho_bd h
          refine hw_ci hS (hp_runV (As := [.int x2, .int x4]) (rest := [.ref a0, .int v29]) X hP hS hl.1 LX7 (ho_is_s hs) kX7_110 ⟨m4_21, mp_29⟩ (c_X7_at l G fu a0 x2 x4 _ _ _ q) rfl (Nat.le_of_ble_eq_true rfl) ⟨⟨Nat.le_of_ble_eq_true rfl, Nat.le_of_ble_eq_true rfl⟩, Nat.le_of_ble_eq_true rfl, Nat.le_of_ble_eq_true rfl⟩ dX7_isPairBroken_342) (fun H locs hP hS => ?_)
          obtain ⟨_, hs, h⟩ := ho_bd h
          obtain ⟨⟨v31, z⟩, q, h⟩ := ho_bd h
          refine hw_ci hS (hp_runV (As := [.int v30]) (rest := [.int v29]) X hP hS hl.1 LX7 (ho_is_s hs) kX7_97 ⟨m3_215, mp_23⟩ (c_X7_heightOf l G fu a0 v30 _ _ _ q) rfl (Nat.le_of_ble_eq_true rfl) ⟨⟨Nat.le_of_ble_eq_true rfl, Nat.le_of_ble_eq_true rfl⟩, Nat.le_of_ble_eq_true rfl, Nat.le_of_ble_eq_true rfl⟩ dX7_isPairBroken_345) (fun H locs hP hS => ?_)
          refine lv_icmp_ge (tgt := 355) hx hb dX7_isPairBroken_348 (by decide) (fun hc => ?_) (fun hc => ?_)
          · replace h := ho_ip hc h
            exact B355 z _ _ _ h hP hS (lv_sub hl [0, 1, 2, 3, 4, 5] rfl)
          · replace h := ho_in hc h
            exact B351 z _ _ _ h hP hS (lv_sub hl [0, 1, 2, 3, 4, 5] rfl)
  replace h := ho_in hc4 h
  by_cases hc5 : x1 = 5
  · replace h := ho_ip hc5 h
    refine lv_tableIn (tgt := 603) hx hb dX7_isPairBroken_1 (by rw [hc5]; decide) (by rw [hc5]; decide) (by rw [hc5]; rfl) (by decide) ?_
    refine lv_iconst (v := 0) hx hb dX7_isPairBroken_603 (by decide) ?_
    exact hw_zret X hP hS hr hlocks h dX7_isPairBroken_604
  replace h := ho_in hc5 h
  by_cases hc6 : x1 = 6
  · replace h := ho_ip hc6 h
    refine lv_tableIn (tgt := 603) hx hb dX7_isPairBroken_1 (by rw [hc6]; decide) (by rw [hc6]; decide) (by rw [hc6]; rfl) (by decide) ?_
    refine lv_iconst (v := 0) hx hb dX7_isPairBroken_603 (by decide) ?_
    exact hw_zret X hP hS hr hlocks h dX7_isPairBroken_604
  replace h := ho_in hc6 h
  by_cases hc7 : x1 = 7
  · replace h := ho_ip hc7 h
    refine lv_tableIn (tgt := 357) hx hb dX7_isPairBroken_1 (by rw [hc7]; decide) (by rw [hc7]; decide) (by rw [hc7]; rfl) (by decide) ?_
    refine lv_aload_n hx hb dX7_isPairBroken_357 rfl (lv_at hl 0 rfl) ?_
    refine lv_iload_n hx hb dX7_isPairBroken_358 rfl (lv_at hl 2 rfl) ?_
    refine lv_iload hx hb dX7_isPairBroken_359 (lv_at hl 4 rfl) ?_
    refine lv_iload hx hb dX7_isPairBroken_361 (lv_at hl 5 rfl) ?_
    obtain ⟨_, hs, h⟩ := ho_bd h
    obtain ⟨⟨v32, z⟩, q, h⟩ := ho_bd h
    refine hw_ci hS (hp_runV (As := [.int x2, .int x4, .int x5]) (rest := []) X hP hS hl.1 LX7 (ho_is_s hs) kX7_140 ⟨m4_64, mp_39⟩ (c_X7_leaps l G fu a0 x2 x4 x5 _ _ _ q) rfl (Nat.le_of_ble_eq_true rfl) ⟨⟨Nat.le_of_ble_eq_true rfl, Nat.le_of_ble_eq_true rfl⟩, Nat.le_of_ble_eq_true rfl, Nat.le_of_ble_eq_true rfl⟩ dX7_isPairBroken_363) (fun H locs hP hS => ?_)
    exact hw_zret X hP hS hr hlocks h dX7_isPairBroken_366
  replace h := ho_in hc7 h
  by_cases hc8 : x1 = 8
  · replace h := ho_ip hc8 h
    refine lv_tableIn (tgt := 367) hx hb dX7_isPairBroken_1 (by rw [hc8]; decide) (by rw [hc8]; decide) (by rw [hc8]; rfl) (by decide) ?_
    refine lv_aload_n hx hb dX7_isPairBroken_367 rfl (lv_at hl 0 rfl) ?_
    refine lv_iload_n hx hb dX7_isPairBroken_368 rfl (lv_at hl 2 rfl) ?_
    refine lv_iload hx hb dX7_isPairBroken_369 (lv_at hl 4 rfl) ?_
    refine lv_iload hx hb dX7_isPairBroken_371 (lv_at hl 5 rfl) ?_
    obtain ⟨_, hs, h⟩ := ho_bd h
    obtain ⟨⟨v33, z⟩, q, h⟩ := ho_bd h
    refine hw_ci hS (hp_runV (As := [.int x2, .int x4, .int x5]) (rest := []) X hP hS hl.1 LX7 (ho_is_s hs) kX7_124 ⟨m4_48, mp_35⟩ (c_X7_moves l G fu a0 x2 x4 x5 _ _ _ q) rfl (Nat.le_of_ble_eq_true rfl) ⟨⟨Nat.le_of_ble_eq_true rfl, Nat.le_of_ble_eq_true rfl⟩, Nat.le_of_ble_eq_true rfl, Nat.le_of_ble_eq_true rfl⟩ dX7_isPairBroken_373) (fun H locs hP hS => ?_)
    refine lv_if_eq (tgt := 453) hx hb dX7_isPairBroken_376 (by decide) (fun hc => ?_) (fun hc => ?_)
    · replace h := ho_ip hc h
      exact B453 z _ _ _ h hP hS (lv_sub hl [0, 1, 2, 3, 4, 5] rfl)
    · replace h := ho_in hc h
      refine lv_aload_n hx hb dX7_isPairBroken_379 rfl (lv_at hl 0 rfl) ?_
      refine lv_aload_n hx hb dX7_isPairBroken_380 rfl (lv_at hl 0 rfl) ?_
      refine lv_iload_n hx hb dX7_isPairBroken_381 rfl (lv_at hl 2 rfl) ?_
      refine lv_iload hx hb dX7_isPairBroken_382 (lv_at hl 4 rfl) ?_
      obtain ⟨_, hs, h⟩ := ho_bd h
      obtain ⟨⟨v34, z⟩, q, h⟩ := ho_bd h
      refine hw_ci hS (hp_runV (As := [.int x2, .int x4]) (rest := [.ref a0]) X hP hS hl.1 LX7 (ho_is_s hs) kX7_110 ⟨m4_21, mp_29⟩ (c_X7_at l G fu a0 x2 x4 _ _ _ q) rfl (Nat.le_of_ble_eq_true rfl) ⟨⟨Nat.le_of_ble_eq_true rfl, Nat.le_of_ble_eq_true rfl⟩, Nat.le_of_ble_eq_true rfl, Nat.le_of_ble_eq_true rfl⟩ dX7_isPairBroken_384) (fun H locs hP hS => ?_)
      obtain ⟨_, hs, h⟩ := ho_bd h
      obtain ⟨⟨v35, z⟩, q, h⟩ := ho_bd h
      refine hw_ci hS (hp_runV (As := [.int v34]) (rest := []) X hP hS hl.1 LX7 (ho_is_s hs) kX7_143 ⟨m4_29, mp_31⟩ (c_X7_isLeading l G fu a0 v34 _ _ _ q) rfl (Nat.le_of_ble_eq_true rfl) ⟨⟨Nat.le_of_ble_eq_true rfl, Nat.le_of_ble_eq_true rfl⟩, Nat.le_of_ble_eq_true rfl, Nat.le_of_ble_eq_true rfl⟩ dX7_isPairBroken_387) (fun H locs hP hS => ?_)
      refine lv_if_eq (tgt := 453) hx hb dX7_isPairBroken_390 (by decide) (fun hc => ?_) (fun hc => ?_)
      · replace h := ho_ip hc h
        exact B453 z _ _ _ h hP hS (lv_sub hl [0, 1, 2, 3, 4, 5] rfl)
      · replace h := ho_in hc h
        refine lv_aload_n hx hb dX7_isPairBroken_393 rfl (lv_at hl 0 rfl) ?_
        obtain ⟨r36, q, h⟩ := ho_bd h
        refine hw_gr X hP LX7 fX7_16 rfl q dX7_isPairBroken_394 ?_
        refine lv_aload_n hx hb dX7_isPairBroken_397 rfl (lv_at hl 0 rfl) ?_
        refine lv_iload_n hx hb dX7_isPairBroken_398 rfl (lv_at hl 2 rfl) ?_
        refine lv_iload hx hb dX7_isPairBroken_399 (lv_at hl 5 rfl) ?_
        obtain ⟨_, hs, h⟩ := ho_bd h
        obtain ⟨⟨v37, z⟩, q, h⟩ := ho_bd h
        refine hw_ci hS (hp_runV (As := [.int x2, .int x5]) (rest := [.ref r36]) X hP hS hl.1 LX7 (ho_is_s hs) kX7_110 ⟨m4_21, mp_29⟩ (c_X7_at l G fu a0 x2 x5 _ _ _ q) rfl (Nat.le_of_ble_eq_true rfl) ⟨⟨Nat.le_of_ble_eq_true rfl, Nat.le_of_ble_eq_true rfl⟩, Nat.le_of_ble_eq_true rfl, Nat.le_of_ble_eq_true rfl⟩ dX7_isPairBroken_401) (fun H locs hP hS => ?_)
        obtain ⟨v38, q, h⟩ := ho_bd h
        refine hw_li X hP q dX7_isPairBroken_404 ?_
        refine lv_aload_n hx hb dX7_isPairBroken_405 rfl (lv_at hl 0 rfl) ?_
        obtain ⟨r39, q, h⟩ := ho_bd h
        refine hw_gr X hP LX7 fX7_16 rfl q dX7_isPairBroken_406 ?_
        refine lv_aload_n hx hb dX7_isPairBroken_409 rfl (lv_at hl 0 rfl) ?_
        refine lv_iload_n hx hb dX7_isPairBroken_410 rfl (lv_at hl 2 rfl) ?_
        refine lv_iload hx hb dX7_isPairBroken_411 (lv_at hl 4 rfl) ?_
        obtain ⟨_, hs, h⟩ := ho_bd h
        obtain ⟨⟨v40, z⟩, q, h⟩ := ho_bd h
        refine hw_ci hS (hp_runV (As := [.int x2, .int x4]) (rest := [.ref r39, .int v38]) X hP hS hl.1 LX7 (ho_is_s hs) kX7_110 ⟨m4_21, mp_29⟩ (c_X7_at l G fu a0 x2 x4 _ _ _ q) rfl (Nat.le_of_ble_eq_true rfl) ⟨⟨Nat.le_of_ble_eq_true rfl, Nat.le_of_ble_eq_true rfl⟩, Nat.le_of_ble_eq_true rfl, Nat.le_of_ble_eq_true rfl⟩ dX7_isPairBroken_413) (fun H locs hP hS => ?_)
        obtain ⟨v41, q, h⟩ := ho_bd h
        refine hw_li X hP q dX7_isPairBroken_416 ?_
        refine lv_iconst (v := 1) hx hb dX7_isPairBroken_417 (by decide) ?_
        refine lv_iadd hx hb dX7_isPairBroken_418 ?_
        refine lv_icmp_ne (tgt := 449) hx hb dX7_isPairBroken_419 (by decide) (fun hc => ?_) (fun hc => ?_)
        · replace h := ho_in hc h
          exact B449 z _ _ _ h hP hS (lv_sub hl [0, 1, 2, 3, 4, 5] rfl)
        · replace h := ho_ip hc h
          refine lv_aload_n hx hb dX7_isPairBroken_422 rfl (lv_at hl 0 rfl) ?_
          refine lv_aload_n hx hb dX7_isPairBroken_423 rfl (lv_at hl 0 rfl) ?_
          refine lv_iload_n hx hb dX7_isPairBroken_424 rfl (lv_at hl 2 rfl) ?_
          refine lv_iload hx hb dX7_isPairBroken_425 (lv_at hl 5 rfl) ?_
          obtain ⟨_, hs, h⟩ := ho_bd h
          obtain ⟨⟨v42, z⟩, q, h⟩ := ho_bd h
          refine hw_ci hS (hp_runV (As := [.int x2, .int x5]) (rest := [.ref a0]) X hP hS hl.1 LX7 (ho_is_s hs) kX7_110 ⟨m4_21, mp_29⟩ (c_X7_at l G fu a0 x2 x5 _ _ _ q) rfl (Nat.le_of_ble_eq_true rfl) ⟨⟨Nat.le_of_ble_eq_true rfl, Nat.le_of_ble_eq_true rfl⟩, Nat.le_of_ble_eq_true rfl, Nat.le_of_ble_eq_true rfl⟩ dX7_isPairBroken_427) (fun H locs hP hS => ?_)
          obtain ⟨_, hs, h⟩ := ho_bd h
          obtain ⟨⟨v43, z⟩, q, h⟩ := ho_bd h
          refine hw_ci hS (hp_runV (As := [.int v42]) (rest := []) X hP hS hl.1 LX7 (ho_is_s hs) kX7_97 ⟨m3_215, mp_23⟩ (c_X7_heightOf l G fu a0 v42 _ _ _ q) rfl (Nat.le_of_ble_eq_true rfl) ⟨⟨Nat.le_of_ble_eq_true rfl, Nat.le_of_ble_eq_true rfl⟩, Nat.le_of_ble_eq_true rfl, Nat.le_of_ble_eq_true rfl⟩ dX7_isPairBroken_430) (fun H locs hP hS => ?_)
          refine lv_aload_n hx hb dX7_isPairBroken_433 rfl (lv_at hl 0 rfl) ?_
          refine lv_aload_n hx hb dX7_isPairBroken_434 rfl (lv_at hl 0 rfl) ?_
          refine lv_iload_n hx hb dX7_isPairBroken_435 rfl (lv_at hl 2 rfl) ?_
          refine lv_iload hx hb dX7_isPairBroken_436 (lv_at hl 4 rfl) ?_
          obtain ⟨_, hs, h⟩ := ho_bd h
          obtain ⟨⟨v44, z⟩, q, h⟩ := ho_bd h
          refine hw_ci hS (hp_runV (As := [.int x2, .int x4]) (rest := [.ref a0, .int v43]) X hP hS hl.1 LX7 (ho_is_s hs) kX7_110 ⟨m4_21, mp_29⟩ (c_X7_at l G fu a0 x2 x4 _ _ _ q) rfl (Nat.le_of_ble_eq_true rfl) ⟨⟨Nat.le_of_ble_eq_true rfl, Nat.le_of_ble_eq_true rfl⟩, Nat.le_of_ble_eq_true rfl, Nat.le_of_ble_eq_true rfl⟩ dX7_isPairBroken_438) (fun H locs hP hS => ?_)
          obtain ⟨_, hs, h⟩ := ho_bd h
          obtain ⟨⟨v45, z⟩, q, h⟩ := ho_bd h
          refine hw_ci hS (hp_runV (As := [.int v44]) (rest := [.int v43]) X hP hS hl.1 LX7 (ho_is_s hs) kX7_97 ⟨m3_215, mp_23⟩ (c_X7_heightOf l G fu a0 v44 _ _ _ q) rfl (Nat.le_of_ble_eq_true rfl) ⟨⟨Nat.le_of_ble_eq_true rfl, Nat.le_of_ble_eq_true rfl⟩, Nat.le_of_ble_eq_true rfl, Nat.le_of_ble_eq_true rfl⟩ dX7_isPairBroken_441) (fun H locs hP hS => ?_)
          refine lv_iconst (v := 1) hx hb dX7_isPairBroken_444 (by decide) ?_
          refine lv_iadd hx hb dX7_isPairBroken_445 ?_
          refine lv_icmp_eq (tgt := 453) hx hb dX7_isPairBroken_446 (by decide) (fun hc => ?_) (fun hc => ?_)
          · replace h := ho_ip hc h
            exact B453 z _ _ _ h hP hS (lv_sub hl [0, 1, 2, 3, 4, 5] rfl)
          · replace h := ho_in hc h
            exact B449 z _ _ _ h hP hS (lv_sub hl [0, 1, 2, 3, 4, 5] rfl)
  replace h := ho_in hc8 h
  by_cases hc9 : x1 = 9
  · replace h := ho_ip hc9 h
    refine lv_tableIn (tgt := 603) hx hb dX7_isPairBroken_1 (by rw [hc9]; decide) (by rw [hc9]; decide) (by rw [hc9]; rfl) (by decide) ?_
    refine lv_iconst (v := 0) hx hb dX7_isPairBroken_603 (by decide) ?_
    exact hw_zret X hP hS hr hlocks h dX7_isPairBroken_604
  replace h := ho_in hc9 h
  by_cases hc10 : x1 = 10
  · replace h := ho_ip hc10 h
    refine lv_tableIn (tgt := 455) hx hb dX7_isPairBroken_1 (by rw [hc10]; decide) (by rw [hc10]; decide) (by rw [hc10]; rfl) (by decide) ?_
    refine lv_aload_n hx hb dX7_isPairBroken_455 rfl (lv_at hl 0 rfl) ?_
    refine lv_iload_n hx hb dX7_isPairBroken_456 rfl (lv_at hl 2 rfl) ?_
    refine lv_iload hx hb dX7_isPairBroken_457 (lv_at hl 4 rfl) ?_
    refine lv_iload hx hb dX7_isPairBroken_459 (lv_at hl 5 rfl) ?_
    obtain ⟨_, hs, h⟩ := ho_bd h
    obtain ⟨⟨v46, z⟩, q, h⟩ := ho_bd h
    refine hw_ci hS (hp_runV (As := [.int x2, .int x4, .int x5]) (rest := []) X hP hS hl.1 LX7 (ho_is_s hs) kX7_124 ⟨m4_48, mp_35⟩ (c_X7_moves l G fu a0 x2 x4 x5 _ _ _ q) rfl (Nat.le_of_ble_eq_true rfl) ⟨⟨Nat.le_of_ble_eq_true rfl, Nat.le_of_ble_eq_true rfl⟩, Nat.le_of_ble_eq_true rfl, Nat.le_of_ble_eq_true rfl⟩ dX7_isPairBroken_461) (fun H locs hP hS => ?_)
    refine lv_if_eq (tgt := 547) hx hb dX7_isPairBroken_464 (by decide) (fun hc => ?_) (fun hc => ?_)
    · replace h := ho_ip hc h
      exact B547 z _ _ _ h hP hS (lv_sub hl [0, 1, 2, 3, 4, 5] rfl)
    · replace h := ho_in hc h
      refine lv_aload_n hx hb dX7_isPairBroken_467 rfl (lv_at hl 0 rfl) ?_
      refine lv_iconst (v := 0) hx hb dX7_isPairBroken_468 (by decide) ?_
      refine lv_iload hx hb dX7_isPairBroken_469 (lv_at hl 4 rfl) ?_
      obtain ⟨_, hs, h⟩ := ho_bd h
      obtain ⟨⟨v47, z⟩, q, h⟩ := ho_bd h
      refine hw_ci hS (hp_runV (As := [.int 0, .int x4]) (rest := []) X hP hS hl.1 LX7 (ho_is_s hs) kX7_110 ⟨m4_21, mp_29⟩ (c_X7_at l G fu a0 0 x4 _ _ _ q) rfl (Nat.le_of_ble_eq_true rfl) ⟨⟨Nat.le_of_ble_eq_true rfl, Nat.le_of_ble_eq_true rfl⟩, Nat.le_of_ble_eq_true rfl, Nat.le_of_ble_eq_true rfl⟩ dX7_isPairBroken_471) (fun H locs hP hS => ?_)
      refine lv_iconst (v := (-1)) hx hb dX7_isPairBroken_474 (by decide) ?_
      refine lv_icmp_eq (tgt := 547) hx hb dX7_isPairBroken_475 (by decide) (fun hc => ?_) (fun hc => ?_)
      · replace h := ho_ip hc h
        exact B547 z _ _ _ h hP hS (lv_sub hl [0, 1, 2, 3, 4, 5] rfl)
      · replace h := ho_in hc h
        refine lv_aload_n hx hb dX7_isPairBroken_478 rfl (lv_at hl 0 rfl) ?_
        obtain ⟨r48, q, h⟩ := ho_bd h
        refine hw_gr X hP LX7 fX7_16 rfl q dX7_isPairBroken_479 ?_
        refine lv_aload_n hx hb dX7_isPairBroken_482 rfl (lv_at hl 0 rfl) ?_
        refine lv_iload_n hx hb dX7_isPairBroken_483 rfl (lv_at hl 2 rfl) ?_
        refine lv_iload hx hb dX7_isPairBroken_484 (lv_at hl 4 rfl) ?_
        obtain ⟨_, hs, h⟩ := ho_bd h
        obtain ⟨⟨v49, z⟩, q, h⟩ := ho_bd h
        refine hw_ci hS (hp_runV (As := [.int x2, .int x4]) (rest := [.ref r48]) X hP hS hl.1 LX7 (ho_is_s hs) kX7_110 ⟨m4_21, mp_29⟩ (c_X7_at l G fu a0 x2 x4 _ _ _ q) rfl (Nat.le_of_ble_eq_true rfl) ⟨⟨Nat.le_of_ble_eq_true rfl, Nat.le_of_ble_eq_true rfl⟩, Nat.le_of_ble_eq_true rfl, Nat.le_of_ble_eq_true rfl⟩ dX7_isPairBroken_486) (fun H locs hP hS => ?_)
        obtain ⟨v50, q, h⟩ := ho_bd h
        refine hw_li X hP q dX7_isPairBroken_489 ?_
        refine lv_aload_n hx hb dX7_isPairBroken_490 rfl (lv_at hl 0 rfl) ?_
        obtain ⟨r51, q, h⟩ := ho_bd h
        refine hw_gr X hP LX7 fX7_16 rfl q dX7_isPairBroken_491 ?_
        refine lv_aload_n hx hb dX7_isPairBroken_494 rfl (lv_at hl 0 rfl) ?_
        refine lv_iconst (v := 0) hx hb dX7_isPairBroken_495 (by decide) ?_
        refine lv_iload hx hb dX7_isPairBroken_496 (lv_at hl 4 rfl) ?_
        obtain ⟨_, hs, h⟩ := ho_bd h
        obtain ⟨⟨v52, z⟩, q, h⟩ := ho_bd h
        refine hw_ci hS (hp_runV (As := [.int 0, .int x4]) (rest := [.ref r51, .int v50]) X hP hS hl.1 LX7 (ho_is_s hs) kX7_110 ⟨m4_21, mp_29⟩ (c_X7_at l G fu a0 0 x4 _ _ _ q) rfl (Nat.le_of_ble_eq_true rfl) ⟨⟨Nat.le_of_ble_eq_true rfl, Nat.le_of_ble_eq_true rfl⟩, Nat.le_of_ble_eq_true rfl, Nat.le_of_ble_eq_true rfl⟩ dX7_isPairBroken_498) (fun H locs hP hS => ?_)
        obtain ⟨v53, q, h⟩ := ho_bd h
        refine hw_li X hP q dX7_isPairBroken_501 ?_
        refine lv_isub hx hb dX7_isPairBroken_502 ?_
        refine lv_bipush (v := 7) hx hb dX7_isPairBroken_503 (by decide) ?_
        refine lv_iconst (v := 0) hx hb dX7_isPairBroken_505 (by decide) ?_
        obtain ⟨⟨v54, z⟩, q, h⟩ := ho_bd h
        refine hw_ci hS (hp_runS (As := [.int (v50 - v53), .int 7, .int 0]) (rest := []) X hP hS hl.1 kX7_114 m4_32 (c_X7_modulo l G fu (v50 - v53) 7 0 _ _ _ q) rfl (Nat.le_of_ble_eq_true rfl) ⟨⟨Nat.le_of_ble_eq_true rfl, Nat.le_of_ble_eq_true rfl⟩, Nat.le_of_ble_eq_true rfl, Nat.le_of_ble_eq_true rfl⟩ dX7_isPairBroken_506) (fun H locs hP hS => ?_)
        refine lv_bipush (v := 6) hx hb dX7_isPairBroken_509 (by decide) ?_
        refine lv_icmp_ne (tgt := 547) hx hb dX7_isPairBroken_511 (by decide) (fun hc => ?_) (fun hc => ?_)
        · replace h := ho_in hc h
          exact B547 z _ _ _ h hP hS (lv_sub hl [0, 1, 2, 3, 4, 5] rfl)
        · replace h := ho_ip hc h
          refine lv_aload_n hx hb dX7_isPairBroken_514 rfl (lv_at hl 0 rfl) ?_
          obtain ⟨r55, q, h⟩ := ho_bd h
          refine hw_gr X hP LX7 fX7_16 rfl q dX7_isPairBroken_515 ?_
          refine lv_aload_n hx hb dX7_isPairBroken_518 rfl (lv_at hl 0 rfl) ?_
          refine lv_iload_n hx hb dX7_isPairBroken_519 rfl (lv_at hl 2 rfl) ?_
          refine lv_iload hx hb dX7_isPairBroken_520 (lv_at hl 5 rfl) ?_
          obtain ⟨_, hs, h⟩ := ho_bd h
          obtain ⟨⟨v56, z⟩, q, h⟩ := ho_bd h
          refine hw_ci hS (hp_runV (As := [.int x2, .int x5]) (rest := [.ref r55]) X hP hS hl.1 LX7 (ho_is_s hs) kX7_110 ⟨m4_21, mp_29⟩ (c_X7_at l G fu a0 x2 x5 _ _ _ q) rfl (Nat.le_of_ble_eq_true rfl) ⟨⟨Nat.le_of_ble_eq_true rfl, Nat.le_of_ble_eq_true rfl⟩, Nat.le_of_ble_eq_true rfl, Nat.le_of_ble_eq_true rfl⟩ dX7_isPairBroken_522) (fun H locs hP hS => ?_)
          obtain ⟨v57, q, h⟩ := ho_bd h
          refine hw_li X hP q dX7_isPairBroken_525 ?_
          refine lv_aload_n hx hb dX7_isPairBroken_526 rfl (lv_at hl 0 rfl) ?_
          obtain ⟨r58, q, h⟩ := ho_bd h
          refine hw_gr X hP LX7 fX7_16 rfl q dX7_isPairBroken_527 ?_
          refine lv_aload_n hx hb dX7_isPairBroken_530 rfl (lv_at hl 0 rfl) ?_
          refine lv_iload_n hx hb dX7_isPairBroken_531 rfl (lv_at hl 2 rfl) ?_
          refine lv_iload hx hb dX7_isPairBroken_532 (lv_at hl 4 rfl) ?_
          obtain ⟨_, hs, h⟩ := ho_bd h
          obtain ⟨⟨v59, z⟩, q, h⟩ := ho_bd h
          refine hw_ci hS (hp_runV (As := [.int x2, .int x4]) (rest := [.ref r58, .int v57]) X hP hS hl.1 LX7 (ho_is_s hs) kX7_110 ⟨m4_21, mp_29⟩ (c_X7_at l G fu a0 x2 x4 _ _ _ q) rfl (Nat.le_of_ble_eq_true rfl) ⟨⟨Nat.le_of_ble_eq_true rfl, Nat.le_of_ble_eq_true rfl⟩, Nat.le_of_ble_eq_true rfl, Nat.le_of_ble_eq_true rfl⟩ dX7_isPairBroken_534) (fun H locs hP hS => ?_)
          obtain ⟨v60, q, h⟩ := ho_bd h
          refine hw_li X hP q dX7_isPairBroken_537 ?_
          refine lv_iconst (v := 1) hx hb dX7_isPairBroken_538 (by decide) ?_
          refine lv_isub hx hb dX7_isPairBroken_539 ?_
          refine lv_icmp_eq (tgt := 547) hx hb dX7_isPairBroken_540 (by decide) (fun hc => ?_) (fun hc => ?_)
          · replace h := ho_ip hc h
            exact B547 z _ _ _ h hP hS (lv_sub hl [0, 1, 2, 3, 4, 5] rfl)
          · replace h := ho_in hc h
            refine lv_iconst (v := 1) hx hb dX7_isPairBroken_543 (by decide) ?_
            refine lv_goto (tgt := 548) hx hb dX7_isPairBroken_544 (by decide) ?_
            exact B548 1 z _ _ _ h hP hS (lv_sub hl [0, 1, 2, 3, 4, 5] rfl)
  replace h := ho_in hc10 h
  by_cases hc11 : x1 = 11
  · replace h := ho_ip hc11 h
    refine lv_tableIn (tgt := 549) hx hb dX7_isPairBroken_1 (by rw [hc11]; decide) (by rw [hc11]; decide) (by rw [hc11]; rfl) (by decide) ?_
    refine lv_aload_n hx hb dX7_isPairBroken_549 rfl (lv_at hl 0 rfl) ?_
    refine lv_iload_n hx hb dX7_isPairBroken_550 rfl (lv_at hl 2 rfl) ?_
    refine lv_iload_n hx hb dX7_isPairBroken_551 rfl (lv_at hl 3 rfl) ?_
    refine lv_iload hx hb dX7_isPairBroken_552 (lv_at hl 4 rfl) ?_
    refine lv_iload hx hb dX7_isPairBroken_554 (lv_at hl 5 rfl) ?_
    obtain ⟨_, hs, h⟩ := ho_bd h
    obtain ⟨⟨v61, z⟩, q, h⟩ := ho_bd h
    refine hw_ci hS (hp_runV (As := [.int x2, .int x3, .int x4, .int x5]) (rest := []) X hP hS hl.1 LX7 (ho_is_s hs) kX7_146 ⟨m4_68, mp_40⟩ (c_X7_crosses l G fu a0 x2 x3 x4 x5 _ _ _ q) rfl (Nat.le_of_ble_eq_true rfl) ⟨⟨Nat.le_of_ble_eq_true rfl, Nat.le_of_ble_eq_true rfl⟩, Nat.le_of_ble_eq_true rfl, Nat.le_of_ble_eq_true rfl⟩ dX7_isPairBroken_556) (fun H locs hP hS => ?_)
    exact hw_zret X hP hS hr hlocks h dX7_isPairBroken_559
  replace h := ho_in hc11 h
  by_cases hc12 : x1 = 12
  · replace h := ho_ip hc12 h
    refine lv_tableIn (tgt := 560) hx hb dX7_isPairBroken_1 (by rw [hc12]; decide) (by rw [hc12]; decide) (by rw [hc12]; rfl) (by decide) ?_
    refine lv_aload_n hx hb dX7_isPairBroken_560 rfl (lv_at hl 0 rfl) ?_
    refine lv_iload_n hx hb dX7_isPairBroken_561 rfl (lv_at hl 2 rfl) ?_
    refine lv_iload_n hx hb dX7_isPairBroken_562 rfl (lv_at hl 3 rfl) ?_
    refine lv_iload hx hb dX7_isPairBroken_563 (lv_at hl 4 rfl) ?_
    refine lv_iload hx hb dX7_isPairBroken_565 (lv_at hl 5 rfl) ?_
    obtain ⟨_, hs, h⟩ := ho_bd h
    obtain ⟨⟨v62, z⟩, q, h⟩ := ho_bd h
    refine hw_ci hS (hp_runV (As := [.int x2, .int x3, .int x4, .int x5]) (rest := []) X hP hS hl.1 LX7 (ho_is_s hs) kX7_130 ⟨m4_40, mp_33⟩ (c_X7_goAlike l G fu a0 x2 x3 x4 x5 _ _ _ q) rfl (Nat.le_of_ble_eq_true rfl) ⟨⟨Nat.le_of_ble_eq_true rfl, Nat.le_of_ble_eq_true rfl⟩, Nat.le_of_ble_eq_true rfl, Nat.le_of_ble_eq_true rfl⟩ dX7_isPairBroken_567) (fun H locs hP hS => ?_)
    refine lv_if_eq (tgt := 601) hx hb dX7_isPairBroken_570 (by decide) (fun hc => ?_) (fun hc => ?_)
    · replace h := ho_ip hc h
      exact B601 z _ _ _ h hP hS (lv_sub hl [0, 1, 2, 3, 4, 5] rfl)
    · replace h := ho_in hc h
      refine lv_aload_n hx hb dX7_isPairBroken_573 rfl (lv_at hl 0 rfl) ?_
      refine lv_iload_n hx hb dX7_isPairBroken_574 rfl (lv_at hl 2 rfl) ?_
      refine lv_iload_n hx hb dX7_isPairBroken_575 rfl (lv_at hl 3 rfl) ?_
      refine lv_iload hx hb dX7_isPairBroken_576 (lv_at hl 4 rfl) ?_
      obtain ⟨_, hs, h⟩ := ho_bd h
      obtain ⟨⟨v63, z⟩, q, h⟩ := ho_bd h
      refine hw_ci hS (hp_runV (As := [.int x2, .int x3, .int x4]) (rest := []) X hP hS hl.1 LX7 (ho_is_s hs) kX7_134 ⟨m4_56, mp_37⟩ (c_X7_which l G fu a0 x2 x3 x4 _ _ _ q) rfl (Nat.le_of_ble_eq_true rfl) ⟨⟨Nat.le_of_ble_eq_true rfl, Nat.le_of_ble_eq_true rfl⟩, Nat.le_of_ble_eq_true rfl, Nat.le_of_ble_eq_true rfl⟩ dX7_isPairBroken_578) (fun H locs hP hS => ?_)
      refine lv_iconst (v := 3) hx hb dX7_isPairBroken_581 (by decide) ?_
      refine lv_icmp_eq (tgt := 601) hx hb dX7_isPairBroken_582 (by decide) (fun hc => ?_) (fun hc => ?_)
      · replace h := ho_ip hc h
        exact B601 z _ _ _ h hP hS (lv_sub hl [0, 1, 2, 3, 4, 5] rfl)
      · replace h := ho_in hc h
        refine lv_aload_n hx hb dX7_isPairBroken_585 rfl (lv_at hl 0 rfl) ?_
        refine lv_iload_n hx hb dX7_isPairBroken_586 rfl (lv_at hl 2 rfl) ?_
        refine lv_iload_n hx hb dX7_isPairBroken_587 rfl (lv_at hl 3 rfl) ?_
        refine lv_iload hx hb dX7_isPairBroken_588 (lv_at hl 5 rfl) ?_
        obtain ⟨_, hs, h⟩ := ho_bd h
        obtain ⟨⟨v64, z⟩, q, h⟩ := ho_bd h
        refine hw_ci hS (hp_runV (As := [.int x2, .int x3, .int x5]) (rest := []) X hP hS hl.1 LX7 (ho_is_s hs) kX7_134 ⟨m4_56, mp_37⟩ (c_X7_which l G fu a0 x2 x3 x5 _ _ _ q) rfl (Nat.le_of_ble_eq_true rfl) ⟨⟨Nat.le_of_ble_eq_true rfl, Nat.le_of_ble_eq_true rfl⟩, Nat.le_of_ble_eq_true rfl, Nat.le_of_ble_eq_true rfl⟩ dX7_isPairBroken_590) (fun H locs hP hS => ?_)
        refine lv_iconst (v := 3) hx hb dX7_isPairBroken_593 (by decide) ?_
        refine lv_icmp_ne (tgt := 601) hx hb dX7_isPairBroken_594 (by decide) (fun hc => ?_) (fun hc => ?_)
        · replace h := ho_in hc h
          exact B601 z _ _ _ h hP hS (lv_sub hl [0, 1, 2, 3, 4, 5] rfl)
        · replace h := ho_ip hc h
          refine lv_iconst (v := 1) hx hb dX7_isPairBroken_597 (by decide) ?_
          refine lv_goto (tgt := 602) hx hb dX7_isPairBroken_598 (by decide) ?_
          exact B602 1 z _ _ _ h hP hS (lv_sub hl [0, 1, 2, 3, 4, 5] rfl)
  replace h := ho_in hc12 h
  refine lv_tableOut (tgt := 603) hx hb dX7_isPairBroken_1 (by have u0 := ho_ne (n := 0) 0 rfl hc0; have u1 := ho_ne (n := 1) 1 rfl hc1; have u2 := ho_ne (n := 2) 2 rfl hc2; have u3 := ho_ne (n := 3) 3 rfl hc3; have u4 := ho_ne (n := 4) 4 rfl hc4; have u5 := ho_ne (n := 5) 5 rfl hc5; have u6 := ho_ne (n := 6) 6 rfl hc6; have u7 := ho_ne (n := 7) 7 rfl hc7; have u8 := ho_ne (n := 8) 8 rfl hc8; have u9 := ho_ne (n := 9) 9 rfl hc9; have u10 := ho_ne (n := 10) 10 rfl hc10; have u11 := ho_ne (n := 11) 11 rfl hc11; have u12 := ho_ne (n := 12) 12 rfl hc12; omega) (by decide) ?_
  refine lv_iconst (v := 0) hx hb dX7_isPairBroken_603 (by decide) ?_
  exact hw_zret X hP hS hr hlocks h dX7_isPairBroken_604
def f_X7_isBroken_B174 (fu : Nat) (a0 : Nat) (x1 : Int32) (x2 : Int32) (x3 : Int32) (x4 : Int32) (w5 : Int32) (z : hp_S) : Option (Int32 × hp_S) :=
  if vp_nar .boolean w5 = w5 then some (w5, z) else none
def f_X7_isBroken_B166 (fu : Nat) (a0 : Nat) (x1 : Int32) (x2 : Int32) (x3 : Int32) (x4 : Int32) (ag : Int32 → Int32 → hp_S → Option (Int32 × hp_S)) (kk : Int32 → hp_S → Option (Int32 × hp_S)) (w6 : Int32) (s0 : Int32) (z : hp_S) : Option (Int32 × hp_S) :=
  (ho_id (w6 + 1)).bind fun v5 =>
  ag s0 v5 z
def f_X7_isBroken_B165 (fu : Nat) (a0 : Nat) (x1 : Int32) (x2 : Int32) (x3 : Int32) (x4 : Int32) (ag : Int32 → Int32 → hp_S → Option (Int32 × hp_S)) (kk : Int32 → hp_S → Option (Int32 × hp_S)) (w6 : Int32) (z : hp_S) : Option (Int32 × hp_S) :=
  f_X7_isBroken_B166 fu a0 x1 x2 x3 x4 ag kk w6 0 z
def f_X7_isBroken_B133 (fu : Nat) (a0 : Nat) (x1 : Int32) (x2 : Int32) (x3 : Int32) (x4 : Int32) (ag : Int32 → Int32 → hp_S → Option (Int32 × hp_S)) (kk : Int32 → hp_S → Option (Int32 × hp_S)) (w6 : Int32) (w7 : Int32) (w8 : Int32) (z : hp_S) : Option (Int32 × hp_S) :=
  if w7 = x4 then (
    if w8 < w7 then (
      f_X7_isBroken_B165 fu a0 x1 x2 x3 x4 ag kk w6 z
    ) else (
      (ho_is 7 a0 z).bind fun _ =>
      (f_X7_isPairBroken fu a0 x1 x2 x3 w8 x4 z).bind fun ⟨v6, z⟩ =>
      if v6 = 0 then (
        f_X7_isBroken_B165 fu a0 x1 x2 x3 x4 ag kk w6 z
      ) else (
        f_X7_isBroken_B166 fu a0 x1 x2 x3 x4 ag kk w6 1 z
      )
    )
  ) else (
    f_X7_isBroken_B165 fu a0 x1 x2 x3 x4 ag kk w6 z
  )
def f_X7_isBroken_L105 (fu : Nat) (a0 : Nat) (x1 : Int32) (x2 : Int32) (x3 : Int32) (x4 : Int32) (kk : Int32 → Int32 → Int32 → hp_S → Option (Int32 × hp_S)) : Nat → Int32 → Int32 → Int32 → hp_S → Option (Int32 × hp_S)
  | 0, _, _, _, _ => none
  | n + 1, w6, w7, w8, z =>
    if w8 < 0 then (
      kk w6 w7 w8 z
    ) else (
      (ho_gr 7 a0 17 z).bind fun r7 =>
      (ho_li 1 r7 w8 z).bind fun v8 =>
      (ho_gr 7 a0 12 z).bind fun r9 =>
      (ho_li 1 r9 w6 z).bind fun v10 =>
      if v8 < v10 then (
        kk w6 w7 w8 z
      ) else (
        (ho_id (w8 + (-1))).bind fun v11 =>
        (f_X7_isBroken_L105 fu a0 x1 x2 x3 x4 kk n) w6 w7 v11 z
      )
    )
def f_X7_isBroken_B97 (fu : Nat) (a0 : Nat) (x1 : Int32) (x2 : Int32) (x3 : Int32) (x4 : Int32) (ag : Int32 → Int32 → hp_S → Option (Int32 × hp_S)) (kk : Int32 → hp_S → Option (Int32 × hp_S)) (w6 : Int32) (w7 : Int32) (z : hp_S) : Option (Int32 × hp_S) :=
  (ho_gi 7 a0 16 z).bind fun v3 =>
  (ho_id (v3 - 1)).bind fun v4 =>
  f_X7_isBroken_L105 fu a0 x1 x2 x3 x4 (f_X7_isBroken_B133 fu a0 x1 x2 x3 x4 ag kk) fu w6 w7 v4 z
def f_X7_isBroken_L65 (fu : Nat) (a0 : Nat) (x1 : Int32) (x2 : Int32) (x3 : Int32) (x4 : Int32) (kk : Int32 → Int32 → hp_S → Option (Int32 × hp_S)) : Nat → Int32 → Int32 → hp_S → Option (Int32 × hp_S)
  | 0, _, _, _ => none
  | n + 1, w6, w7, z =>
    (ho_gi 7 a0 16 z).bind fun v12 =>
    if v12 ≤ w7 then (
      kk w6 w7 z
    ) else (
      (ho_gr 7 a0 17 z).bind fun r13 =>
      (ho_li 1 r13 w7 z).bind fun v14 =>
      (ho_gr 7 a0 11 z).bind fun r15 =>
      (ho_li 1 r15 w6 z).bind fun v16 =>
      if v16 ≤ v14 then (
        kk w6 w7 z
      ) else (
        (ho_id (w7 + 1)).bind fun v17 =>
        (f_X7_isBroken_L65 fu a0 x1 x2 x3 x4 kk n) w6 v17 z
      )
    )
def f_X7_isBroken_L48 (fu : Nat) (a0 : Nat) (x1 : Int32) (x2 : Int32) (x3 : Int32) (x4 : Int32) (kk : Int32 → hp_S → Option (Int32 × hp_S)) : Nat → Int32 → Int32 → hp_S → Option (Int32 × hp_S)
  | 0, _, _, _ => none
  | n + 1, w5, w6, z =>
    (ho_gi 7 a0 10 z).bind fun v2 =>
    if v2 ≤ w6 then (
      kk w5 z
    ) else (
      if w5 = 0 then (
        f_X7_isBroken_L65 fu a0 x1 x2 x3 x4 (f_X7_isBroken_B97 fu a0 x1 x2 x3 x4 (f_X7_isBroken_L48 fu a0 x1 x2 x3 x4 kk n) kk) fu w6 0 z
      ) else (
        kk w5 z
      )
    )
def f_X7_isBroken_B43 (fu : Nat) (a0 : Nat) (x1 : Int32) (x2 : Int32) (x3 : Int32) (x4 : Int32) (s0 : Int32) (z : hp_S) : Option (Int32 × hp_S) :=
  f_X7_isBroken_L48 fu a0 x1 x2 x3 x4 (f_X7_isBroken_B174 fu a0 x1 x2 x3 x4) fu s0 0 z
def f_X7_isBroken_B42 (fu : Nat) (a0 : Nat) (x1 : Int32) (x2 : Int32) (x3 : Int32) (x4 : Int32) (z : hp_S) : Option (Int32 × hp_S) :=
  f_X7_isBroken_B43 fu a0 x1 x2 x3 x4 0 z
def f_X7_isBroken (fu : Nat) (a0 : Nat) (x1 : Int32) (x2 : Int32) (x3 : Int32) (x4 : Int32) (z : hp_S) : Option (Int32 × hp_S) :=
  (f_X7_isOfMoments fu x1 z).bind fun ⟨v1, z⟩ =>
  if v1 = 0 then (
    if x4 ≤ 0 then (
      f_X7_isBroken_B42 fu a0 x1 x2 x3 x4  z
    ) else (
      (ho_is 7 a0 z).bind fun _ =>
      (f_X7_isPairBroken fu a0 x1 x2 x3 (x4 - 1) x4 z).bind fun ⟨v18, z⟩ =>
      if v18 = 0 then (
        f_X7_isBroken_B42 fu a0 x1 x2 x3 x4  z
      ) else (
        f_X7_isBroken_B43 fu a0 x1 x2 x3 x4 1 z
      )
    )
  ) else (
    (ho_is 7 a0 z).bind fun _ =>
    (f_X7_isBrokenAt fu a0 x1 x2 x3 x4 z).bind fun ⟨v19, z⟩ =>
    if vp_nar .boolean v19 = v19 then some (v19, z) else none
  )
set_option maxHeartbeats 4000000 in
set_option maxRecDepth 100000 in
theorem c_X7_isBroken (l : Launch) (G : hp_G) (fu : Nat) (a0 : Nat) (x1 : Int32) (x2 : Int32) (x3 : Int32) (x4 : Int32) (z : hp_S) (rq : Int32) (zq : hp_S) (h : f_X7_isBroken fu a0 x1 x2 x3 x4 z = some (rq, zq)) : hp_M l G yX7_isBroken cX7_isBroken 9 (some .boolean) 6 142 0 0 [.ref a0, .int x1, .int x2, .int x3, .int x4] z (hp_Qi G rq zq) := by
  refine hp_M.of (by decide) (Nat.le_of_ble_eq_true rfl) ?_
  intro p e s m below meth c X hr hlocks hnm hP hS ls hl
  have X : hp_C G cX7_isBroken RX7 9 p s m c := X
  have hl : lv_has ls 9 [(0, .ref a0), (1, .int x1), (2, .int x2), (3, .int x3), (4, .int x4)] := hl
  have hx := X.1
  have hb := X.2.1
  have B174 : ∀ (w5 : Int32) (z : hp_S) (H : Heap) (locs : List Loc) (ls : Array Slot), f_X7_isBroken_B174 fu a0 x1 x2 x3 x4 w5 z = some (rq, zq) → hp_P G z H → va_S (hp_A G) s.heap H locs → lv_has ls 9 [(0, .ref a0), (1, .int x1), (2, .int x2), (3, .int x3), (4, .int x4), (5, .int w5)] → W p l e (hp_rm 6 142 0 0) s m [.ref a0, .int x1, .int x2, .int x3, .int x4].toArray below meth c H locs 0 0 (MQ below (hp_Qi G rq zq) [.ref a0, .int x1, .int x2, .int x3, .int x4].toArray s 0 0 (hp_A G)) (F0 m 174 ls []) := by
    intro w5 z H locs ls h hP hS hl
    unfold f_X7_isBroken_B174 at h
    refine lv_iload hx hb dX7_isBroken_174 (lv_at hl 5 rfl) ?_
    exact hw_zret X hP hS hr hlocks h dX7_isBroken_176
  have L48 : ∀ (n48 : Nat) (w5 : Int32) (w6 : Int32) (z : hp_S) (H : Heap) (locs : List Loc) (ls : Array Slot), f_X7_isBroken_L48 fu a0 x1 x2 x3 x4 (f_X7_isBroken_B174 fu a0 x1 x2 x3 x4) n48 w5 w6 z = some (rq, zq) → hp_P G z H → va_S (hp_A G) s.heap H locs → lv_has ls 9 [(0, .ref a0), (1, .int x1), (2, .int x2), (3, .int x3), (4, .int x4), (5, .int w5), (6, .int w6)] → W p l e (hp_rm 6 142 0 0) s m [.ref a0, .int x1, .int x2, .int x3, .int x4].toArray below meth c H locs 0 0 (MQ below (hp_Qi G rq zq) [.ref a0, .int x1, .int x2, .int x3, .int x4].toArray s 0 0 (hp_A G)) (F0 m 48 ls []) := by
    intro n48
    induction n48 with
    | zero =>
      intro w5 w6 z H locs ls h
      exact nomatch (h : (none : Option (Int32 × hp_S)) = some (rq, zq))
    | succ n48 ih48 =>
      have B166 : ∀ (w6 : Int32) (s0 : Int32) (z : hp_S) (H : Heap) (locs : List Loc) (ls : Array Slot), f_X7_isBroken_B166 fu a0 x1 x2 x3 x4 (f_X7_isBroken_L48 fu a0 x1 x2 x3 x4 (f_X7_isBroken_B174 fu a0 x1 x2 x3 x4) n48) (f_X7_isBroken_B174 fu a0 x1 x2 x3 x4) w6 s0 z = some (rq, zq) → hp_P G z H → va_S (hp_A G) s.heap H locs → lv_has ls 9 [(0, .ref a0), (1, .int x1), (2, .int x2), (3, .int x3), (4, .int x4), (6, .int w6)] → W p l e (hp_rm 6 142 0 0) s m [.ref a0, .int x1, .int x2, .int x3, .int x4].toArray below meth c H locs 0 0 (MQ below (hp_Qi G rq zq) [.ref a0, .int x1, .int x2, .int x3, .int x4].toArray s 0 0 (hp_A G)) (F0 m 166 ls [.int s0]) := by
        intro w6 s0 z H locs ls h hP hS hl
        unfold f_X7_isBroken_B166 at h
        refine lv_istore (lv' := [(5, .int s0), (0, .ref a0), (1, .int x1), (2, .int x2), (3, .int x3), (4, .int x4), (6, .int w6)]) hx hb dX7_isBroken_166 hl (by decide) rfl (fun ls hl => ?_)
        obtain ⟨v5, q, h⟩ := ho_bd h
        refine lv_iinc (v := v5) (lv' := [(6, .int v5), (5, .int s0), (0, .ref a0), (1, .int x1), (2, .int x2), (3, .int x3), (4, .int x4)]) hx hb dX7_isBroken_168 hl (k := 6) rfl (Option.some.inj q) (by decide) rfl (fun ls hl => ?_)
        refine lv_goto (tgt := 48) hx hb dX7_isBroken_171 (by decide) ?_
        exact ih48 s0 v5 z _ _ _ h hP hS (lv_sub hl [2, 3, 4, 5, 6, 1, 0] rfl)
      have B165 : ∀ (w6 : Int32) (z : hp_S) (H : Heap) (locs : List Loc) (ls : Array Slot), f_X7_isBroken_B165 fu a0 x1 x2 x3 x4 (f_X7_isBroken_L48 fu a0 x1 x2 x3 x4 (f_X7_isBroken_B174 fu a0 x1 x2 x3 x4) n48) (f_X7_isBroken_B174 fu a0 x1 x2 x3 x4) w6 z = some (rq, zq) → hp_P G z H → va_S (hp_A G) s.heap H locs → lv_has ls 9 [(0, .ref a0), (1, .int x1), (2, .int x2), (3, .int x3), (4, .int x4), (6, .int w6)] → W p l e (hp_rm 6 142 0 0) s m [.ref a0, .int x1, .int x2, .int x3, .int x4].toArray below meth c H locs 0 0 (MQ below (hp_Qi G rq zq) [.ref a0, .int x1, .int x2, .int x3, .int x4].toArray s 0 0 (hp_A G)) (F0 m 165 ls []) := by
        intro w6 z H locs ls h hP hS hl
        unfold f_X7_isBroken_B165 at h
        refine lv_iconst (v := 0) hx hb dX7_isBroken_165 (by decide) ?_
        exact B166 w6 0 z _ _ _ h hP hS (lv_sub hl [0, 1, 2, 3, 4, 5] rfl)
      have B133 : ∀ (w6 : Int32) (w7 : Int32) (w8 : Int32) (z : hp_S) (H : Heap) (locs : List Loc) (ls : Array Slot), f_X7_isBroken_B133 fu a0 x1 x2 x3 x4 (f_X7_isBroken_L48 fu a0 x1 x2 x3 x4 (f_X7_isBroken_B174 fu a0 x1 x2 x3 x4) n48) (f_X7_isBroken_B174 fu a0 x1 x2 x3 x4) w6 w7 w8 z = some (rq, zq) → hp_P G z H → va_S (hp_A G) s.heap H locs → lv_has ls 9 [(0, .ref a0), (1, .int x1), (2, .int x2), (3, .int x3), (4, .int x4), (6, .int w6), (7, .int w7), (8, .int w8)] → W p l e (hp_rm 6 142 0 0) s m [.ref a0, .int x1, .int x2, .int x3, .int x4].toArray below meth c H locs 0 0 (MQ below (hp_Qi G rq zq) [.ref a0, .int x1, .int x2, .int x3, .int x4].toArray s 0 0 (hp_A G)) (F0 m 133 ls []) := by
        intro w6 w7 w8 z H locs ls h hP hS hl
        unfold f_X7_isBroken_B133 at h
        refine lv_iload hx hb dX7_isBroken_133 (lv_at hl 6 rfl) ?_
        refine lv_iload hx hb dX7_isBroken_135 (lv_at hl 4 rfl) ?_
        refine lv_icmp_ne (tgt := 165) hx hb dX7_isBroken_137 (by decide) (fun hc => ?_) (fun hc => ?_)
        · replace h := ho_in hc h
          exact B165 w6 z _ _ _ h hP hS (lv_sub hl [0, 1, 2, 3, 4, 5] rfl)
        · replace h := ho_ip hc h
          refine lv_iload hx hb dX7_isBroken_140 (lv_at hl 7 rfl) ?_
          refine lv_iload hx hb dX7_isBroken_142 (lv_at hl 6 rfl) ?_
          refine lv_icmp_lt (tgt := 165) hx hb dX7_isBroken_144 (by decide) (fun hc => ?_) (fun hc => ?_)
          · replace h := ho_ip hc h
            exact B165 w6 z _ _ _ h hP hS (lv_sub hl [0, 1, 2, 3, 4, 5] rfl)
          · replace h := ho_in hc h
            refine lv_aload_n hx hb dX7_isBroken_147 rfl (lv_at hl 0 rfl) ?_
            refine lv_iload_n hx hb dX7_isBroken_148 rfl (lv_at hl 1 rfl) ?_
            refine lv_iload_n hx hb dX7_isBroken_149 rfl (lv_at hl 2 rfl) ?_
            refine lv_iload_n hx hb dX7_isBroken_150 rfl (lv_at hl 3 rfl) ?_
            refine lv_iload hx hb dX7_isBroken_151 (lv_at hl 7 rfl) ?_
            refine lv_iload hx hb dX7_isBroken_153 (lv_at hl 4 rfl) ?_
            obtain ⟨_, hs, h⟩ := ho_bd h
            obtain ⟨⟨v6, z⟩, q, h⟩ := ho_bd h
            refine hw_ci hS (hp_runV (As := [.int x1, .int x2, .int x3, .int w8, .int x4]) (rest := []) X hP hS hl.1 LX7 (ho_is_s hs) kX7_155 ⟨m4_36, mp_32⟩ (c_X7_isPairBroken l G fu a0 x1 x2 x3 w8 x4 _ _ _ q) rfl (Nat.le_of_ble_eq_true rfl) ⟨⟨Nat.le_of_ble_eq_true rfl, Nat.le_of_ble_eq_true rfl⟩, Nat.le_of_ble_eq_true rfl, Nat.le_of_ble_eq_true rfl⟩ dX7_isBroken_155) (fun H locs hP hS => ?_)
            refine lv_if_eq (tgt := 165) hx hb dX7_isBroken_158 (by decide) (fun hc => ?_) (fun hc => ?_)
            · replace h := ho_ip hc h
              exact B165 w6 z _ _ _ h hP hS (lv_sub hl [0, 1, 2, 3, 4, 5] rfl)
            · replace h := ho_in hc h
              refine lv_iconst (v := 1) hx hb dX7_isBroken_161 (by decide) ?_
              refine lv_goto (tgt := 166) hx hb dX7_isBroken_162 (by decide) ?_
              exact B166 w6 1 z _ _ _ h hP hS (lv_sub hl [0, 1, 2, 3, 4, 5] rfl)
      have L105 : ∀ (n105 : Nat) (w6 : Int32) (w7 : Int32) (w8 : Int32) (z : hp_S) (H : Heap) (locs : List Loc) (ls : Array Slot), f_X7_isBroken_L105 fu a0 x1 x2 x3 x4 (f_X7_isBroken_B133 fu a0 x1 x2 x3 x4 (f_X7_isBroken_L48 fu a0 x1 x2 x3 x4 (f_X7_isBroken_B174 fu a0 x1 x2 x3 x4) n48) (f_X7_isBroken_B174 fu a0 x1 x2 x3 x4)) n105 w6 w7 w8 z = some (rq, zq) → hp_P G z H → va_S (hp_A G) s.heap H locs → lv_has ls 9 [(0, .ref a0), (1, .int x1), (2, .int x2), (3, .int x3), (4, .int x4), (6, .int w6), (7, .int w7), (8, .int w8)] → W p l e (hp_rm 6 142 0 0) s m [.ref a0, .int x1, .int x2, .int x3, .int x4].toArray below meth c H locs 0 0 (MQ below (hp_Qi G rq zq) [.ref a0, .int x1, .int x2, .int x3, .int x4].toArray s 0 0 (hp_A G)) (F0 m 105 ls []) := by
        intro n105
        induction n105 with
        | zero =>
          intro w6 w7 w8 z H locs ls h
          exact nomatch (h : (none : Option (Int32 × hp_S)) = some (rq, zq))
        | succ n105 ih105 =>
          intro w6 w7 w8 z H locs ls h hP hS hl
          rw [f_X7_isBroken_L105] at h
          refine lv_iload hx hb dX7_isBroken_105 (lv_at hl 7 rfl) ?_
          refine lv_if_lt (tgt := 133) hx hb dX7_isBroken_107 (by decide) (fun hc => ?_) (fun hc => ?_)
          · replace h := ho_ip hc h
            exact B133 w6 w7 w8 z _ _ _ h hP hS (lv_sub hl [0, 1, 2, 3, 4, 5, 6, 7] rfl)
          · replace h := ho_in hc h
            refine lv_aload_n hx hb dX7_isBroken_110 rfl (lv_at hl 0 rfl) ?_
            obtain ⟨r7, q, h⟩ := ho_bd h
            refine hw_gr X hP LX7 fX7_44 rfl q dX7_isBroken_111 ?_
            refine lv_iload hx hb dX7_isBroken_114 (lv_at hl 7 rfl) ?_
            obtain ⟨v8, q, h⟩ := ho_bd h
            refine hw_li X hP q dX7_isBroken_116 ?_
            refine lv_aload_n hx hb dX7_isBroken_117 rfl (lv_at hl 0 rfl) ?_
            obtain ⟨r9, q, h⟩ := ho_bd h
            refine hw_gr X hP LX7 fX7_35 rfl q dX7_isBroken_118 ?_
            refine lv_iload hx hb dX7_isBroken_121 (lv_at hl 5 rfl) ?_
            obtain ⟨v10, q, h⟩ := ho_bd h
            refine hw_li X hP q dX7_isBroken_123 ?_
            refine lv_icmp_lt (tgt := 133) hx hb dX7_isBroken_124 (by decide) (fun hc => ?_) (fun hc => ?_)
            · replace h := ho_ip hc h
              exact B133 w6 w7 w8 z _ _ _ h hP hS (lv_sub hl [0, 1, 2, 3, 4, 5, 6, 7] rfl)
            · replace h := ho_in hc h
              obtain ⟨v11, q, h⟩ := ho_bd h
              refine lv_iinc (v := v11) (lv' := [(8, .int v11), (0, .ref a0), (1, .int x1), (2, .int x2), (3, .int x3), (4, .int x4), (6, .int w6), (7, .int w7)]) hx hb dX7_isBroken_127 hl (k := 7) rfl (Option.some.inj q) (by decide) rfl (fun ls hl => ?_)
              refine lv_goto (tgt := 105) hx hb dX7_isBroken_130 (by decide) ?_
              exact ih105 w6 w7 v11 z _ _ _ h hP hS (lv_sub hl [1, 2, 3, 4, 5, 6, 7, 0] rfl)
      have B97 : ∀ (w6 : Int32) (w7 : Int32) (z : hp_S) (H : Heap) (locs : List Loc) (ls : Array Slot), f_X7_isBroken_B97 fu a0 x1 x2 x3 x4 (f_X7_isBroken_L48 fu a0 x1 x2 x3 x4 (f_X7_isBroken_B174 fu a0 x1 x2 x3 x4) n48) (f_X7_isBroken_B174 fu a0 x1 x2 x3 x4) w6 w7 z = some (rq, zq) → hp_P G z H → va_S (hp_A G) s.heap H locs → lv_has ls 9 [(0, .ref a0), (1, .int x1), (2, .int x2), (3, .int x3), (4, .int x4), (6, .int w6), (7, .int w7)] → W p l e (hp_rm 6 142 0 0) s m [.ref a0, .int x1, .int x2, .int x3, .int x4].toArray below meth c H locs 0 0 (MQ below (hp_Qi G rq zq) [.ref a0, .int x1, .int x2, .int x3, .int x4].toArray s 0 0 (hp_A G)) (F0 m 97 ls []) := by
        intro w6 w7 z H locs ls h hP hS hl
        unfold f_X7_isBroken_B97 at h
        refine lv_aload_n hx hb dX7_isBroken_97 rfl (lv_at hl 0 rfl) ?_
        obtain ⟨v3, q, h⟩ := ho_bd h
        refine hw_gi X hP LX7 fX7_100 rfl q dX7_isBroken_98 ?_
        refine lv_iconst (v := 1) hx hb dX7_isBroken_101 (by decide) ?_
        refine lv_isub hx hb dX7_isBroken_102 ?_
        obtain ⟨v4, q, h⟩ := ho_bd h
        refine hw_id q ?_
        refine lv_istore (lv' := [(8, .int v4), (0, .ref a0), (1, .int x1), (2, .int x2), (3, .int x3), (4, .int x4), (6, .int w6), (7, .int w7)]) hx hb dX7_isBroken_103 hl (by decide) rfl (fun ls hl => ?_)
        exact L105 fu w6 w7 v4 z _ _ _ h hP hS (lv_sub hl [1, 2, 3, 4, 5, 6, 7, 0] rfl)
      have L65 : ∀ (n65 : Nat) (w6 : Int32) (w7 : Int32) (z : hp_S) (H : Heap) (locs : List Loc) (ls : Array Slot), f_X7_isBroken_L65 fu a0 x1 x2 x3 x4 (f_X7_isBroken_B97 fu a0 x1 x2 x3 x4 (f_X7_isBroken_L48 fu a0 x1 x2 x3 x4 (f_X7_isBroken_B174 fu a0 x1 x2 x3 x4) n48) (f_X7_isBroken_B174 fu a0 x1 x2 x3 x4)) n65 w6 w7 z = some (rq, zq) → hp_P G z H → va_S (hp_A G) s.heap H locs → lv_has ls 9 [(0, .ref a0), (1, .int x1), (2, .int x2), (3, .int x3), (4, .int x4), (6, .int w6), (7, .int w7)] → W p l e (hp_rm 6 142 0 0) s m [.ref a0, .int x1, .int x2, .int x3, .int x4].toArray below meth c H locs 0 0 (MQ below (hp_Qi G rq zq) [.ref a0, .int x1, .int x2, .int x3, .int x4].toArray s 0 0 (hp_A G)) (F0 m 65 ls []) := by
        intro n65
        induction n65 with
        | zero =>
          intro w6 w7 z H locs ls h
          exact nomatch (h : (none : Option (Int32 × hp_S)) = some (rq, zq))
        | succ n65 ih65 =>
          intro w6 w7 z H locs ls h hP hS hl
          rw [f_X7_isBroken_L65] at h
          refine lv_iload hx hb dX7_isBroken_65 (lv_at hl 6 rfl) ?_
          refine lv_aload_n hx hb dX7_isBroken_67 rfl (lv_at hl 0 rfl) ?_
          obtain ⟨v12, q, h⟩ := ho_bd h
          refine hw_gi X hP LX7 fX7_100 rfl q dX7_isBroken_68 ?_
          refine lv_icmp_ge (tgt := 97) hx hb dX7_isBroken_71 (by decide) (fun hc => ?_) (fun hc => ?_)
          · replace h := ho_ip hc h
            exact B97 w6 w7 z _ _ _ h hP hS (lv_sub hl [0, 1, 2, 3, 4, 5, 6] rfl)
          · replace h := ho_in hc h
            refine lv_aload_n hx hb dX7_isBroken_74 rfl (lv_at hl 0 rfl) ?_
            obtain ⟨r13, q, h⟩ := ho_bd h
            refine hw_gr X hP LX7 fX7_44 rfl q dX7_isBroken_75 ?_
            refine lv_iload hx hb dX7_isBroken_78 (lv_at hl 6 rfl) ?_
            obtain ⟨v14, q, h⟩ := ho_bd h
            refine hw_li X hP q dX7_isBroken_80 ?_
            refine lv_aload_n hx hb dX7_isBroken_81 rfl (lv_at hl 0 rfl) ?_
            obtain ⟨r15, q, h⟩ := ho_bd h
            refine hw_gr X hP LX7 fX7_32 rfl q dX7_isBroken_82 ?_
            refine lv_iload hx hb dX7_isBroken_85 (lv_at hl 5 rfl) ?_
            obtain ⟨v16, q, h⟩ := ho_bd h
            refine hw_li X hP q dX7_isBroken_87 ?_
            refine lv_icmp_ge (tgt := 97) hx hb dX7_isBroken_88 (by decide) (fun hc => ?_) (fun hc => ?_)
            · replace h := ho_ip hc h
              exact B97 w6 w7 z _ _ _ h hP hS (lv_sub hl [0, 1, 2, 3, 4, 5, 6] rfl)
            · replace h := ho_in hc h
              obtain ⟨v17, q, h⟩ := ho_bd h
              refine lv_iinc (v := v17) (lv' := [(7, .int v17), (0, .ref a0), (1, .int x1), (2, .int x2), (3, .int x3), (4, .int x4), (6, .int w6)]) hx hb dX7_isBroken_91 hl (k := 6) rfl (Option.some.inj q) (by decide) rfl (fun ls hl => ?_)
              refine lv_goto (tgt := 65) hx hb dX7_isBroken_94 (by decide) ?_
              exact ih65 w6 v17 z _ _ _ h hP hS (lv_sub hl [1, 2, 3, 4, 5, 6, 0] rfl)
      intro w5 w6 z H locs ls h hP hS hl
      rw [f_X7_isBroken_L48] at h
      refine lv_iload hx hb dX7_isBroken_48 (lv_at hl 6 rfl) ?_
      refine lv_aload_n hx hb dX7_isBroken_50 rfl (lv_at hl 0 rfl) ?_
      obtain ⟨v2, q, h⟩ := ho_bd h
      refine hw_gi X hP LX7 fX7_69 rfl q dX7_isBroken_51 ?_
      refine lv_icmp_ge (tgt := 174) hx hb dX7_isBroken_54 (by decide) (fun hc => ?_) (fun hc => ?_)
      · replace h := ho_ip hc h
        exact B174 w5 z _ _ _ h hP hS (lv_sub hl [0, 1, 2, 3, 4, 5] rfl)
      · replace h := ho_in hc h
        refine lv_iload hx hb dX7_isBroken_57 (lv_at hl 5 rfl) ?_
        refine lv_if_ne (tgt := 174) hx hb dX7_isBroken_59 (by decide) (fun hc => ?_) (fun hc => ?_)
        · replace h := ho_in hc h
          exact B174 w5 z _ _ _ h hP hS (lv_sub hl [0, 1, 2, 3, 4, 5] rfl)
        · replace h := ho_ip hc h
          refine lv_iconst (v := 0) hx hb dX7_isBroken_62 (by decide) ?_
          refine lv_istore (lv' := [(7, .int 0), (0, .ref a0), (1, .int x1), (2, .int x2), (3, .int x3), (4, .int x4), (5, .int w5), (6, .int w6)]) hx hb dX7_isBroken_63 hl (by decide) rfl (fun ls hl => ?_)
          exact L65 fu w6 0 z _ _ _ h hP hS (lv_sub hl [1, 2, 3, 4, 5, 7, 0] rfl)
  have B43 : ∀ (s0 : Int32) (z : hp_S) (H : Heap) (locs : List Loc) (ls : Array Slot), f_X7_isBroken_B43 fu a0 x1 x2 x3 x4 s0 z = some (rq, zq) → hp_P G z H → va_S (hp_A G) s.heap H locs → lv_has ls 9 [(0, .ref a0), (1, .int x1), (2, .int x2), (3, .int x3), (4, .int x4)] → W p l e (hp_rm 6 142 0 0) s m [.ref a0, .int x1, .int x2, .int x3, .int x4].toArray below meth c H locs 0 0 (MQ below (hp_Qi G rq zq) [.ref a0, .int x1, .int x2, .int x3, .int x4].toArray s 0 0 (hp_A G)) (F0 m 43 ls [.int s0]) := by
    intro s0 z H locs ls h hP hS hl
    unfold f_X7_isBroken_B43 at h
    refine lv_istore (lv' := [(5, .int s0), (0, .ref a0), (1, .int x1), (2, .int x2), (3, .int x3), (4, .int x4)]) hx hb dX7_isBroken_43 hl (by decide) rfl (fun ls hl => ?_)
    refine lv_iconst (v := 0) hx hb dX7_isBroken_45 (by decide) ?_
    refine lv_istore (lv' := [(6, .int 0), (5, .int s0), (0, .ref a0), (1, .int x1), (2, .int x2), (3, .int x3), (4, .int x4)]) hx hb dX7_isBroken_46 hl (by decide) rfl (fun ls hl => ?_)
    exact L48 fu s0 0 z _ _ _ h hP hS (lv_sub hl [2, 3, 4, 5, 6, 1, 0] rfl)
  have B42 : ∀ (z : hp_S) (H : Heap) (locs : List Loc) (ls : Array Slot), f_X7_isBroken_B42 fu a0 x1 x2 x3 x4 z = some (rq, zq) → hp_P G z H → va_S (hp_A G) s.heap H locs → lv_has ls 9 [(0, .ref a0), (1, .int x1), (2, .int x2), (3, .int x3), (4, .int x4)] → W p l e (hp_rm 6 142 0 0) s m [.ref a0, .int x1, .int x2, .int x3, .int x4].toArray below meth c H locs 0 0 (MQ below (hp_Qi G rq zq) [.ref a0, .int x1, .int x2, .int x3, .int x4].toArray s 0 0 (hp_A G)) (F0 m 42 ls []) := by
    intro z H locs ls h hP hS hl
    unfold f_X7_isBroken_B42 at h
    refine lv_iconst (v := 0) hx hb dX7_isBroken_42 (by decide) ?_
    exact B43 0 z _ _ _ h hP hS (lv_sub hl [0, 1, 2, 3, 4] rfl)
  unfold f_X7_isBroken at h
  refine lv_iload_n hx hb dX7_isBroken_0 rfl (lv_at hl 1 rfl) ?_
  obtain ⟨⟨v1, z⟩, q, h⟩ := ho_bd h
  refine hw_ci hS (hp_runS (As := [.int x1]) (rest := []) X hP hS hl.1 kX7_149 m4_13 (c_X7_isOfMoments l G fu x1 _ _ _ q) rfl (Nat.le_of_ble_eq_true rfl) ⟨⟨Nat.le_of_ble_eq_true rfl, Nat.le_of_ble_eq_true rfl⟩, Nat.le_of_ble_eq_true rfl, Nat.le_of_ble_eq_true rfl⟩ dX7_isBroken_1) (fun H locs hP hS => ?_)
  refine lv_if_eq (tgt := 17) hx hb dX7_isBroken_4 (by decide) (fun hc => ?_) (fun hc => ?_)
  · replace h := ho_ip hc h
    refine lv_iload hx hb dX7_isBroken_17 (lv_at hl 4 rfl) ?_
    refine lv_if_le (tgt := 42) hx hb dX7_isBroken_19 (by decide) (fun hc => ?_) (fun hc => ?_)
    · replace h := ho_ip hc h
      exact B42 z _ _ _ h hP hS (lv_sub hl [0, 1, 2, 3, 4] rfl)
    · replace h := ho_in hc h
      refine lv_aload_n hx hb dX7_isBroken_22 rfl (lv_at hl 0 rfl) ?_
      refine lv_iload_n hx hb dX7_isBroken_23 rfl (lv_at hl 1 rfl) ?_
      refine lv_iload_n hx hb dX7_isBroken_24 rfl (lv_at hl 2 rfl) ?_
      refine lv_iload_n hx hb dX7_isBroken_25 rfl (lv_at hl 3 rfl) ?_
      refine lv_iload hx hb dX7_isBroken_26 (lv_at hl 4 rfl) ?_
      refine lv_iconst (v := 1) hx hb dX7_isBroken_28 (by decide) ?_
      refine lv_isub hx hb dX7_isBroken_29 ?_
      refine lv_iload hx hb dX7_isBroken_30 (lv_at hl 4 rfl) ?_
      obtain ⟨_, hs, h⟩ := ho_bd h
      obtain ⟨⟨v18, z⟩, q, h⟩ := ho_bd h
      refine hw_ci hS (hp_runV (As := [.int x1, .int x2, .int x3, .int (x4 - 1), .int x4]) (rest := []) X hP hS hl.1 LX7 (ho_is_s hs) kX7_155 ⟨m4_36, mp_32⟩ (c_X7_isPairBroken l G fu a0 x1 x2 x3 (x4 - 1) x4 _ _ _ q) rfl (Nat.le_of_ble_eq_true rfl) ⟨⟨Nat.le_of_ble_eq_true rfl, Nat.le_of_ble_eq_true rfl⟩, Nat.le_of_ble_eq_true rfl, Nat.le_of_ble_eq_true rfl⟩ dX7_isBroken_32) (fun H locs hP hS => ?_)
      refine lv_if_eq (tgt := 42) hx hb dX7_isBroken_35 (by decide) (fun hc => ?_) (fun hc => ?_)
      · replace h := ho_ip hc h
        exact B42 z _ _ _ h hP hS (lv_sub hl [0, 1, 2, 3, 4] rfl)
      · replace h := ho_in hc h
        refine lv_iconst (v := 1) hx hb dX7_isBroken_38 (by decide) ?_
        refine lv_goto (tgt := 43) hx hb dX7_isBroken_39 (by decide) ?_
        exact B43 1 z _ _ _ h hP hS (lv_sub hl [0, 1, 2, 3, 4] rfl)
  · replace h := ho_in hc h
    refine lv_aload_n hx hb dX7_isBroken_7 rfl (lv_at hl 0 rfl) ?_
    refine lv_iload_n hx hb dX7_isBroken_8 rfl (lv_at hl 1 rfl) ?_
    refine lv_iload_n hx hb dX7_isBroken_9 rfl (lv_at hl 2 rfl) ?_
    refine lv_iload_n hx hb dX7_isBroken_10 rfl (lv_at hl 3 rfl) ?_
    refine lv_iload hx hb dX7_isBroken_11 (lv_at hl 4 rfl) ?_
    obtain ⟨_, hs, h⟩ := ho_bd h
    obtain ⟨⟨v19, z⟩, q, h⟩ := ho_bd h
    refine hw_ci hS (hp_runV (As := [.int x1, .int x2, .int x3, .int x4]) (rest := []) X hP hS hl.1 LX7 (ho_is_s hs) kX7_152 ⟨m4_17, mp_28⟩ (c_X7_isBrokenAt l G fu a0 x1 x2 x3 x4 _ _ _ q) rfl (Nat.le_of_ble_eq_true rfl) ⟨⟨Nat.le_of_ble_eq_true rfl, Nat.le_of_ble_eq_true rfl⟩, Nat.le_of_ble_eq_true rfl, Nat.le_of_ble_eq_true rfl⟩ dX7_isBroken_13) (fun H locs hP hS => ?_)
    exact hw_zret X hP hS hr hlocks h dX7_isBroken_16
def f_X7_judge_B204 (fu : Nat) (a0 : Nat) (z : hp_S) : Option (Int32 × hp_S) :=
  (ho_gi 7 a0 19 z).bind fun v1 =>
  some (v1, z)
def f_X7_judge_B198 (fu : Nat) (a0 : Nat) (ag : Int32 → hp_S → Option (Int32 × hp_S)) (kk : hp_S → Option (Int32 × hp_S)) (w1 : Int32) (z : hp_S) : Option (Int32 × hp_S) :=
  (ho_id (w1 + 1)).bind fun v6 =>
  ag v6 z
def f_X7_judge_B192 (fu : Nat) (a0 : Nat) (ag : Int32 → Int32 → hp_S → Option (Int32 × hp_S)) (kk : Int32 → hp_S → Option (Int32 × hp_S)) (w1 : Int32) (w2 : Int32) (z : hp_S) : Option (Int32 × hp_S) :=
  (ho_id (w2 + 1)).bind fun v10 =>
  ag w1 v10 z
def f_X7_judge_B186 (fu : Nat) (a0 : Nat) (ag : Int32 → Int32 → Int32 → Int32 → hp_S → Option (Int32 × hp_S)) (kk : Int32 → Int32 → hp_S → Option (Int32 × hp_S)) (w1 : Int32) (w2 : Int32) (w3 : Int32) (w4 : Int32) (z : hp_S) : Option (Int32 × hp_S) :=
  (ho_id (w4 + 1)).bind fun v14 =>
  ag w1 w2 w3 v14 z
def f_X7_judge_B180 (fu : Nat) (a0 : Nat) (ag : Int32 → Int32 → Int32 → Int32 → Int32 → hp_S → Option (Int32 × hp_S)) (kk : Int32 → Int32 → Int32 → Int32 → hp_S → Option (Int32 × hp_S)) (w1 : Int32) (w2 : Int32) (w3 : Int32) (w4 : Int32) (w5 : Int32) (z : hp_S) : Option (Int32 × hp_S) :=
  (ho_id (w5 + 1)).bind fun v17 =>
  ag w1 w2 w3 w4 v17 z
def f_X7_judge_B176 (fu : Nat) (a0 : Nat) (ag : Int32 → Int32 → Int32 → Int32 → Int32 → hp_S → Option (Int32 × hp_S)) (kk : Int32 → Int32 → Int32 → Int32 → hp_S → Option (Int32 × hp_S)) (w1 : Int32) (w2 : Int32) (w3 : Int32) (w4 : Int32) (w5 : Int32) (s0 : Int32) (s1 : Int32) (s2 : Nat) (z : hp_S) : Option (Int32 × hp_S) :=
  (ho_pi 7 s2 19 (s1 + s0) z).bind fun z =>
  f_X7_judge_B180 fu a0 ag kk w1 w2 w3 w4 w5 z
def f_X7_judge_B128 (fu : Nat) (a0 : Nat) (ag : Int32 → Int32 → Int32 → Int32 → Int32 → hp_S → Option (Int32 × hp_S)) (kk : Int32 → Int32 → Int32 → Int32 → hp_S → Option (Int32 × hp_S)) (w1 : Int32) (w2 : Int32) (w3 : Int32) (w4 : Int32) (w5 : Int32) (s0 : Int32) (s1 : Int32) (s2 : Nat) (z : hp_S) : Option (Int32 × hp_S) :=
  (ho_pi 7 s2 20 (s1 + s0) z).bind fun z =>
  (ho_gr 7 a0 21 z).bind fun r20 =>
  (ho_gi 7 a0 19 z).bind fun v21 =>
  (ho_si r20 v21 (((((1000 * w1) + (50 * w2)) + (7 * w4)) + w5) + 1) z).bind fun z =>
  (ho_gi 7 a0 19 z).bind fun v22 =>
  if w3 = 0 then (
    f_X7_judge_B176 fu a0 ag kk w1 w2 w3 w4 w5 1 v22 a0 z
  ) else (
    f_X7_judge_B176 fu a0 ag kk w1 w2 w3 w4 w5 0 v22 a0 z
  )
def f_X7_judge_L80 (fu : Nat) (a0 : Nat) (kk : Int32 → Int32 → Int32 → Int32 → hp_S → Option (Int32 × hp_S)) : Nat → Int32 → Int32 → Int32 → Int32 → Int32 → hp_S → Option (Int32 × hp_S)
  | 0, _, _, _, _, _, _ => none
  | n + 1, w1, w2, w3, w4, w5, z =>
    (ho_gi 7 a0 0 z).bind fun v15 =>
    if v15 ≤ w5 then (
      kk w1 w2 w3 w4 z
    ) else (
      (ho_is 7 a0 z).bind fun _ =>
      (f_X7_isAbout fu a0 w2 w4 w5 z).bind fun ⟨v16, z⟩ =>
      if v16 = 0 then (
        f_X7_judge_B180 fu a0 (f_X7_judge_L80 fu a0 kk n) kk w1 w2 w3 w4 w5 z
      ) else (
        (ho_is 7 a0 z).bind fun _ =>
        (f_X7_isBroken fu a0 w2 w4 w5 w1 z).bind fun ⟨v18, z⟩ =>
        if v18 = 0 then (
          f_X7_judge_B180 fu a0 (f_X7_judge_L80 fu a0 kk n) kk w1 w2 w3 w4 w5 z
        ) else (
          (ho_gi 7 a0 20 z).bind fun v19 =>
          if w3 = 0 then (
            f_X7_judge_B128 fu a0 (f_X7_judge_L80 fu a0 kk n) kk w1 w2 w3 w4 w5 0 v19 a0 z
          ) else (
            f_X7_judge_B128 fu a0 (f_X7_judge_L80 fu a0 kk n) kk w1 w2 w3 w4 w5 1 v19 a0 z
          )
        )
      )
    )
def f_X7_judge_L59 (fu : Nat) (a0 : Nat) (kk : Int32 → Int32 → hp_S → Option (Int32 × hp_S)) : Nat → Int32 → Int32 → Int32 → Int32 → hp_S → Option (Int32 × hp_S)
  | 0, _, _, _, _, _ => none
  | n + 1, w1, w2, w3, w4, z =>
    (ho_gi 7 a0 0 z).bind fun v11 =>
    if v11 ≤ w4 then (
      kk w1 w2 z
    ) else (
      (ho_gr 7 a0 7 z).bind fun r12 =>
      (ho_li 2 r12 w2 z).bind fun v13 =>
      if v13 = 0 then (
        kk w1 w2 z
      ) else (
        f_X7_judge_L80 fu a0 (f_X7_judge_B186 fu a0 (f_X7_judge_L59 fu a0 kk n) kk) fu w1 w2 w3 w4 (-1) z
      )
    )
def f_X7_judge_L38 (fu : Nat) (a0 : Nat) (kk : Int32 → hp_S → Option (Int32 × hp_S)) : Nat → Int32 → Int32 → hp_S → Option (Int32 × hp_S)
  | 0, _, _, _ => none
  | n + 1, w1, w2, z =>
    if 14 ≤ w2 then (
      kk w1 z
    ) else (
      (ho_gr 7 a0 17 z).bind fun r7 =>
      (ho_li 1 r7 w1 z).bind fun v8 =>
      (ho_is 7 a0 z).bind fun _ =>
      (f_X7_isExcepted fu a0 w2 v8 z).bind fun ⟨v9, z⟩ =>
      f_X7_judge_L59 fu a0 (f_X7_judge_B192 fu a0 (f_X7_judge_L38 fu a0 kk n) kk) fu w1 w2 v9 0 z
    )
def f_X7_judge_L16 (fu : Nat) (a0 : Nat) (kk : hp_S → Option (Int32 × hp_S)) : Nat → Int32 → hp_S → Option (Int32 × hp_S)
  | 0, _, _ => none
  | n + 1, w1, z =>
    (ho_gi 7 a0 16 z).bind fun v2 =>
    if v2 ≤ w1 then (
      kk  z
    ) else (
      (ho_gr 7 a0 22 z).bind fun r3 =>
      (ho_gr 7 a0 17 z).bind fun r4 =>
      (ho_li 1 r4 w1 z).bind fun v5 =>
      (ho_si r3 w1 v5 z).bind fun z =>
      f_X7_judge_L38 fu a0 (f_X7_judge_B198 fu a0 (f_X7_judge_L16 fu a0 kk n) kk) fu w1 0 z
    )
def f_X7_judge (fu : Nat) (a0 : Nat) (z : hp_S) : Option (Int32 × hp_S) :=
  (ho_is 7 a0 z).bind fun _ =>
  (f_X7_learn fu a0 z).bind fun z =>
  (ho_pi 7 a0 19 0 z).bind fun z =>
  (ho_pi 7 a0 20 0 z).bind fun z =>
  f_X7_judge_L16 fu a0 (f_X7_judge_B204 fu a0) fu 0 z
set_option maxHeartbeats 4000000 in
set_option maxRecDepth 100000 in
theorem c_X7_judge (l : Launch) (G : hp_G) (fu : Nat) (a0 : Nat) (z : hp_S) (rq : Int32) (zq : hp_S) (h : f_X7_judge fu a0 z = some (rq, zq)) : hp_M l G yX7_judge cX7_judge 6 (some .int) 7 170 0 0 [.ref a0] z (hp_Qi G rq zq) := by
  refine hp_M.of (by decide) (Nat.le_of_ble_eq_true rfl) ?_
  intro p e s m below meth c X hr hlocks hnm hP hS ls hl
  have X : hp_C G cX7_judge RX7 6 p s m c := X
  have hl : lv_has ls 6 [(0, .ref a0)] := hl
  have hx := X.1
  have hb := X.2.1
  have B204 : ∀ (z : hp_S) (H : Heap) (locs : List Loc) (ls : Array Slot), f_X7_judge_B204 fu a0 z = some (rq, zq) → hp_P G z H → va_S (hp_A G) s.heap H locs → lv_has ls 6 [(0, .ref a0)] → W p l e (hp_rm 7 170 0 0) s m [.ref a0].toArray below meth c H locs 0 0 (MQ below (hp_Qi G rq zq) [.ref a0].toArray s 0 0 (hp_A G)) (F0 m 204 ls []) := by
    intro z H locs ls h hP hS hl
    unfold f_X7_judge_B204 at h
    refine lv_aload_n hx hb dX7_judge_204 rfl (lv_at hl 0 rfl) ?_
    obtain ⟨v1, q, h⟩ := ho_bd h
    refine hw_gi X hP LX7 fX7_75 rfl q dX7_judge_205 ?_
    exact hw_iret X hP hS hr hlocks h dX7_judge_208
  have L16 : ∀ (n16 : Nat) (w1 : Int32) (z : hp_S) (H : Heap) (locs : List Loc) (ls : Array Slot), f_X7_judge_L16 fu a0 (f_X7_judge_B204 fu a0) n16 w1 z = some (rq, zq) → hp_P G z H → va_S (hp_A G) s.heap H locs → lv_has ls 6 [(0, .ref a0), (1, .int w1)] → W p l e (hp_rm 7 170 0 0) s m [.ref a0].toArray below meth c H locs 0 0 (MQ below (hp_Qi G rq zq) [.ref a0].toArray s 0 0 (hp_A G)) (F0 m 16 ls []) := by
    intro n16
    induction n16 with
    | zero =>
      intro w1 z H locs ls h
      exact nomatch (h : (none : Option (Int32 × hp_S)) = some (rq, zq))
    | succ n16 ih16 =>
      have B198 : ∀ (w1 : Int32) (z : hp_S) (H : Heap) (locs : List Loc) (ls : Array Slot), f_X7_judge_B198 fu a0 (f_X7_judge_L16 fu a0 (f_X7_judge_B204 fu a0) n16) (f_X7_judge_B204 fu a0) w1 z = some (rq, zq) → hp_P G z H → va_S (hp_A G) s.heap H locs → lv_has ls 6 [(0, .ref a0), (1, .int w1)] → W p l e (hp_rm 7 170 0 0) s m [.ref a0].toArray below meth c H locs 0 0 (MQ below (hp_Qi G rq zq) [.ref a0].toArray s 0 0 (hp_A G)) (F0 m 198 ls []) := by
        intro w1 z H locs ls h hP hS hl
        unfold f_X7_judge_B198 at h
        obtain ⟨v6, q, h⟩ := ho_bd h
        refine lv_iinc (v := v6) (lv' := [(1, .int v6), (0, .ref a0)]) hx hb dX7_judge_198 hl (k := 1) rfl (Option.some.inj q) (by decide) rfl (fun ls hl => ?_)
        refine lv_goto (tgt := 16) hx hb dX7_judge_201 (by decide) ?_
        exact ih16 v6 z _ _ _ h hP hS (lv_sub hl [1, 0] rfl)
      have L38 : ∀ (n38 : Nat) (w1 : Int32) (w2 : Int32) (z : hp_S) (H : Heap) (locs : List Loc) (ls : Array Slot), f_X7_judge_L38 fu a0 (f_X7_judge_B198 fu a0 (f_X7_judge_L16 fu a0 (f_X7_judge_B204 fu a0) n16) (f_X7_judge_B204 fu a0)) n38 w1 w2 z = some (rq, zq) → hp_P G z H → va_S (hp_A G) s.heap H locs → lv_has ls 6 [(0, .ref a0), (1, .int w1), (2, .int w2)] → W p l e (hp_rm 7 170 0 0) s m [.ref a0].toArray below meth c H locs 0 0 (MQ below (hp_Qi G rq zq) [.ref a0].toArray s 0 0 (hp_A G)) (F0 m 38 ls []) := by
        intro n38
        induction n38 with
        | zero =>
          intro w1 w2 z H locs ls h
          exact nomatch (h : (none : Option (Int32 × hp_S)) = some (rq, zq))
        | succ n38 ih38 =>
          have B192 : ∀ (w1 : Int32) (w2 : Int32) (z : hp_S) (H : Heap) (locs : List Loc) (ls : Array Slot), f_X7_judge_B192 fu a0 (f_X7_judge_L38 fu a0 (f_X7_judge_B198 fu a0 (f_X7_judge_L16 fu a0 (f_X7_judge_B204 fu a0) n16) (f_X7_judge_B204 fu a0)) n38) (f_X7_judge_B198 fu a0 (f_X7_judge_L16 fu a0 (f_X7_judge_B204 fu a0) n16) (f_X7_judge_B204 fu a0)) w1 w2 z = some (rq, zq) → hp_P G z H → va_S (hp_A G) s.heap H locs → lv_has ls 6 [(0, .ref a0), (1, .int w1), (2, .int w2)] → W p l e (hp_rm 7 170 0 0) s m [.ref a0].toArray below meth c H locs 0 0 (MQ below (hp_Qi G rq zq) [.ref a0].toArray s 0 0 (hp_A G)) (F0 m 192 ls []) := by
            intro w1 w2 z H locs ls h hP hS hl
            unfold f_X7_judge_B192 at h
            obtain ⟨v10, q, h⟩ := ho_bd h
            refine lv_iinc (v := v10) (lv' := [(2, .int v10), (0, .ref a0), (1, .int w1)]) hx hb dX7_judge_192 hl (k := 2) rfl (Option.some.inj q) (by decide) rfl (fun ls hl => ?_)
            refine lv_goto (tgt := 38) hx hb dX7_judge_195 (by decide) ?_
            exact ih38 w1 v10 z _ _ _ h hP hS (lv_sub hl [1, 2, 0] rfl)
          have L59 : ∀ (n59 : Nat) (w1 : Int32) (w2 : Int32) (w3 : Int32) (w4 : Int32) (z : hp_S) (H : Heap) (locs : List Loc) (ls : Array Slot), f_X7_judge_L59 fu a0 (f_X7_judge_B192 fu a0 (f_X7_judge_L38 fu a0 (f_X7_judge_B198 fu a0 (f_X7_judge_L16 fu a0 (f_X7_judge_B204 fu a0) n16) (f_X7_judge_B204 fu a0)) n38) (f_X7_judge_B198 fu a0 (f_X7_judge_L16 fu a0 (f_X7_judge_B204 fu a0) n16) (f_X7_judge_B204 fu a0))) n59 w1 w2 w3 w4 z = some (rq, zq) → hp_P G z H → va_S (hp_A G) s.heap H locs → lv_has ls 6 [(0, .ref a0), (1, .int w1), (2, .int w2), (3, .int w3), (4, .int w4)] → W p l e (hp_rm 7 170 0 0) s m [.ref a0].toArray below meth c H locs 0 0 (MQ below (hp_Qi G rq zq) [.ref a0].toArray s 0 0 (hp_A G)) (F0 m 59 ls []) := by
            intro n59
            induction n59 with
            | zero =>
              intro w1 w2 w3 w4 z H locs ls h
              exact nomatch (h : (none : Option (Int32 × hp_S)) = some (rq, zq))
            | succ n59 ih59 =>
              have B186 : ∀ (w1 : Int32) (w2 : Int32) (w3 : Int32) (w4 : Int32) (z : hp_S) (H : Heap) (locs : List Loc) (ls : Array Slot), f_X7_judge_B186 fu a0 (f_X7_judge_L59 fu a0 (f_X7_judge_B192 fu a0 (f_X7_judge_L38 fu a0 (f_X7_judge_B198 fu a0 (f_X7_judge_L16 fu a0 (f_X7_judge_B204 fu a0) n16) (f_X7_judge_B204 fu a0)) n38) (f_X7_judge_B198 fu a0 (f_X7_judge_L16 fu a0 (f_X7_judge_B204 fu a0) n16) (f_X7_judge_B204 fu a0))) n59) (f_X7_judge_B192 fu a0 (f_X7_judge_L38 fu a0 (f_X7_judge_B198 fu a0 (f_X7_judge_L16 fu a0 (f_X7_judge_B204 fu a0) n16) (f_X7_judge_B204 fu a0)) n38) (f_X7_judge_B198 fu a0 (f_X7_judge_L16 fu a0 (f_X7_judge_B204 fu a0) n16) (f_X7_judge_B204 fu a0))) w1 w2 w3 w4 z = some (rq, zq) → hp_P G z H → va_S (hp_A G) s.heap H locs → lv_has ls 6 [(0, .ref a0), (1, .int w1), (2, .int w2), (3, .int w3), (4, .int w4)] → W p l e (hp_rm 7 170 0 0) s m [.ref a0].toArray below meth c H locs 0 0 (MQ below (hp_Qi G rq zq) [.ref a0].toArray s 0 0 (hp_A G)) (F0 m 186 ls []) := by
                intro w1 w2 w3 w4 z H locs ls h hP hS hl
                unfold f_X7_judge_B186 at h
                obtain ⟨v14, q, h⟩ := ho_bd h
                refine lv_iinc (v := v14) (lv' := [(4, .int v14), (0, .ref a0), (1, .int w1), (2, .int w2), (3, .int w3)]) hx hb dX7_judge_186 hl (k := 4) rfl (Option.some.inj q) (by decide) rfl (fun ls hl => ?_)
                refine lv_goto (tgt := 59) hx hb dX7_judge_189 (by decide) ?_
                exact ih59 w1 w2 w3 v14 z _ _ _ h hP hS (lv_sub hl [1, 2, 3, 4, 0] rfl)
              have L80 : ∀ (n80 : Nat) (w1 : Int32) (w2 : Int32) (w3 : Int32) (w4 : Int32) (w5 : Int32) (z : hp_S) (H : Heap) (locs : List Loc) (ls : Array Slot), f_X7_judge_L80 fu a0 (f_X7_judge_B186 fu a0 (f_X7_judge_L59 fu a0 (f_X7_judge_B192 fu a0 (f_X7_judge_L38 fu a0 (f_X7_judge_B198 fu a0 (f_X7_judge_L16 fu a0 (f_X7_judge_B204 fu a0) n16) (f_X7_judge_B204 fu a0)) n38) (f_X7_judge_B198 fu a0 (f_X7_judge_L16 fu a0 (f_X7_judge_B204 fu a0) n16) (f_X7_judge_B204 fu a0))) n59) (f_X7_judge_B192 fu a0 (f_X7_judge_L38 fu a0 (f_X7_judge_B198 fu a0 (f_X7_judge_L16 fu a0 (f_X7_judge_B204 fu a0) n16) (f_X7_judge_B204 fu a0)) n38) (f_X7_judge_B198 fu a0 (f_X7_judge_L16 fu a0 (f_X7_judge_B204 fu a0) n16) (f_X7_judge_B204 fu a0)))) n80 w1 w2 w3 w4 w5 z = some (rq, zq) → hp_P G z H → va_S (hp_A G) s.heap H locs → lv_has ls 6 [(0, .ref a0), (1, .int w1), (2, .int w2), (3, .int w3), (4, .int w4), (5, .int w5)] → W p l e (hp_rm 7 170 0 0) s m [.ref a0].toArray below meth c H locs 0 0 (MQ below (hp_Qi G rq zq) [.ref a0].toArray s 0 0 (hp_A G)) (F0 m 80 ls []) := by
                intro n80
                induction n80 with
                | zero =>
                  intro w1 w2 w3 w4 w5 z H locs ls h
                  exact nomatch (h : (none : Option (Int32 × hp_S)) = some (rq, zq))
                | succ n80 ih80 =>
                  have B180 : ∀ (w1 : Int32) (w2 : Int32) (w3 : Int32) (w4 : Int32) (w5 : Int32) (z : hp_S) (H : Heap) (locs : List Loc) (ls : Array Slot), f_X7_judge_B180 fu a0 (f_X7_judge_L80 fu a0 (f_X7_judge_B186 fu a0 (f_X7_judge_L59 fu a0 (f_X7_judge_B192 fu a0 (f_X7_judge_L38 fu a0 (f_X7_judge_B198 fu a0 (f_X7_judge_L16 fu a0 (f_X7_judge_B204 fu a0) n16) (f_X7_judge_B204 fu a0)) n38) (f_X7_judge_B198 fu a0 (f_X7_judge_L16 fu a0 (f_X7_judge_B204 fu a0) n16) (f_X7_judge_B204 fu a0))) n59) (f_X7_judge_B192 fu a0 (f_X7_judge_L38 fu a0 (f_X7_judge_B198 fu a0 (f_X7_judge_L16 fu a0 (f_X7_judge_B204 fu a0) n16) (f_X7_judge_B204 fu a0)) n38) (f_X7_judge_B198 fu a0 (f_X7_judge_L16 fu a0 (f_X7_judge_B204 fu a0) n16) (f_X7_judge_B204 fu a0)))) n80) (f_X7_judge_B186 fu a0 (f_X7_judge_L59 fu a0 (f_X7_judge_B192 fu a0 (f_X7_judge_L38 fu a0 (f_X7_judge_B198 fu a0 (f_X7_judge_L16 fu a0 (f_X7_judge_B204 fu a0) n16) (f_X7_judge_B204 fu a0)) n38) (f_X7_judge_B198 fu a0 (f_X7_judge_L16 fu a0 (f_X7_judge_B204 fu a0) n16) (f_X7_judge_B204 fu a0))) n59) (f_X7_judge_B192 fu a0 (f_X7_judge_L38 fu a0 (f_X7_judge_B198 fu a0 (f_X7_judge_L16 fu a0 (f_X7_judge_B204 fu a0) n16) (f_X7_judge_B204 fu a0)) n38) (f_X7_judge_B198 fu a0 (f_X7_judge_L16 fu a0 (f_X7_judge_B204 fu a0) n16) (f_X7_judge_B204 fu a0)))) w1 w2 w3 w4 w5 z = some (rq, zq) → hp_P G z H → va_S (hp_A G) s.heap H locs → lv_has ls 6 [(0, .ref a0), (1, .int w1), (2, .int w2), (3, .int w3), (4, .int w4), (5, .int w5)] → W p l e (hp_rm 7 170 0 0) s m [.ref a0].toArray below meth c H locs 0 0 (MQ below (hp_Qi G rq zq) [.ref a0].toArray s 0 0 (hp_A G)) (F0 m 180 ls []) := by
                    intro w1 w2 w3 w4 w5 z H locs ls h hP hS hl
                    unfold f_X7_judge_B180 at h
                    obtain ⟨v17, q, h⟩ := ho_bd h
                    refine lv_iinc (v := v17) (lv' := [(5, .int v17), (0, .ref a0), (1, .int w1), (2, .int w2), (3, .int w3), (4, .int w4)]) hx hb dX7_judge_180 hl (k := 5) rfl (Option.some.inj q) (by decide) rfl (fun ls hl => ?_)
                    refine lv_goto (tgt := 80) hx hb dX7_judge_183 (by decide) ?_
                    exact ih80 w1 w2 w3 w4 v17 z _ _ _ h hP hS (lv_sub hl [1, 2, 3, 4, 5, 0] rfl)
                  have B176 : ∀ (w1 : Int32) (w2 : Int32) (w3 : Int32) (w4 : Int32) (w5 : Int32) (s0 : Int32) (s1 : Int32) (s2 : Nat) (z : hp_S) (H : Heap) (locs : List Loc) (ls : Array Slot), f_X7_judge_B176 fu a0 (f_X7_judge_L80 fu a0 (f_X7_judge_B186 fu a0 (f_X7_judge_L59 fu a0 (f_X7_judge_B192 fu a0 (f_X7_judge_L38 fu a0 (f_X7_judge_B198 fu a0 (f_X7_judge_L16 fu a0 (f_X7_judge_B204 fu a0) n16) (f_X7_judge_B204 fu a0)) n38) (f_X7_judge_B198 fu a0 (f_X7_judge_L16 fu a0 (f_X7_judge_B204 fu a0) n16) (f_X7_judge_B204 fu a0))) n59) (f_X7_judge_B192 fu a0 (f_X7_judge_L38 fu a0 (f_X7_judge_B198 fu a0 (f_X7_judge_L16 fu a0 (f_X7_judge_B204 fu a0) n16) (f_X7_judge_B204 fu a0)) n38) (f_X7_judge_B198 fu a0 (f_X7_judge_L16 fu a0 (f_X7_judge_B204 fu a0) n16) (f_X7_judge_B204 fu a0)))) n80) (f_X7_judge_B186 fu a0 (f_X7_judge_L59 fu a0 (f_X7_judge_B192 fu a0 (f_X7_judge_L38 fu a0 (f_X7_judge_B198 fu a0 (f_X7_judge_L16 fu a0 (f_X7_judge_B204 fu a0) n16) (f_X7_judge_B204 fu a0)) n38) (f_X7_judge_B198 fu a0 (f_X7_judge_L16 fu a0 (f_X7_judge_B204 fu a0) n16) (f_X7_judge_B204 fu a0))) n59) (f_X7_judge_B192 fu a0 (f_X7_judge_L38 fu a0 (f_X7_judge_B198 fu a0 (f_X7_judge_L16 fu a0 (f_X7_judge_B204 fu a0) n16) (f_X7_judge_B204 fu a0)) n38) (f_X7_judge_B198 fu a0 (f_X7_judge_L16 fu a0 (f_X7_judge_B204 fu a0) n16) (f_X7_judge_B204 fu a0)))) w1 w2 w3 w4 w5 s0 s1 s2 z = some (rq, zq) → hp_P G z H → va_S (hp_A G) s.heap H locs → lv_has ls 6 [(0, .ref a0), (1, .int w1), (2, .int w2), (3, .int w3), (4, .int w4), (5, .int w5)] → W p l e (hp_rm 7 170 0 0) s m [.ref a0].toArray below meth c H locs 0 0 (MQ below (hp_Qi G rq zq) [.ref a0].toArray s 0 0 (hp_A G)) (F0 m 176 ls [.int s0, .int s1, .ref s2]) := by
                    intro w1 w2 w3 w4 w5 s0 s1 s2 z H locs ls h hP hS hl
                    unfold f_X7_judge_B176 at h
                    refine lv_iadd hx hb dX7_judge_176 ?_
                    obtain ⟨z, q, h⟩ := ho_bd h
                    refine hw_pi X hP hS LX7 fX7_75 rfl rfl rfl q dX7_judge_177 (fun H locs hP hS => ?_)
                    exact B180 w1 w2 w3 w4 w5 z _ _ _ h hP hS (lv_sub hl [0, 1, 2, 3, 4, 5] rfl)
                  have B128 : ∀ (w1 : Int32) (w2 : Int32) (w3 : Int32) (w4 : Int32) (w5 : Int32) (s0 : Int32) (s1 : Int32) (s2 : Nat) (z : hp_S) (H : Heap) (locs : List Loc) (ls : Array Slot), f_X7_judge_B128 fu a0 (f_X7_judge_L80 fu a0 (f_X7_judge_B186 fu a0 (f_X7_judge_L59 fu a0 (f_X7_judge_B192 fu a0 (f_X7_judge_L38 fu a0 (f_X7_judge_B198 fu a0 (f_X7_judge_L16 fu a0 (f_X7_judge_B204 fu a0) n16) (f_X7_judge_B204 fu a0)) n38) (f_X7_judge_B198 fu a0 (f_X7_judge_L16 fu a0 (f_X7_judge_B204 fu a0) n16) (f_X7_judge_B204 fu a0))) n59) (f_X7_judge_B192 fu a0 (f_X7_judge_L38 fu a0 (f_X7_judge_B198 fu a0 (f_X7_judge_L16 fu a0 (f_X7_judge_B204 fu a0) n16) (f_X7_judge_B204 fu a0)) n38) (f_X7_judge_B198 fu a0 (f_X7_judge_L16 fu a0 (f_X7_judge_B204 fu a0) n16) (f_X7_judge_B204 fu a0)))) n80) (f_X7_judge_B186 fu a0 (f_X7_judge_L59 fu a0 (f_X7_judge_B192 fu a0 (f_X7_judge_L38 fu a0 (f_X7_judge_B198 fu a0 (f_X7_judge_L16 fu a0 (f_X7_judge_B204 fu a0) n16) (f_X7_judge_B204 fu a0)) n38) (f_X7_judge_B198 fu a0 (f_X7_judge_L16 fu a0 (f_X7_judge_B204 fu a0) n16) (f_X7_judge_B204 fu a0))) n59) (f_X7_judge_B192 fu a0 (f_X7_judge_L38 fu a0 (f_X7_judge_B198 fu a0 (f_X7_judge_L16 fu a0 (f_X7_judge_B204 fu a0) n16) (f_X7_judge_B204 fu a0)) n38) (f_X7_judge_B198 fu a0 (f_X7_judge_L16 fu a0 (f_X7_judge_B204 fu a0) n16) (f_X7_judge_B204 fu a0)))) w1 w2 w3 w4 w5 s0 s1 s2 z = some (rq, zq) → hp_P G z H → va_S (hp_A G) s.heap H locs → lv_has ls 6 [(0, .ref a0), (1, .int w1), (2, .int w2), (3, .int w3), (4, .int w4), (5, .int w5)] → W p l e (hp_rm 7 170 0 0) s m [.ref a0].toArray below meth c H locs 0 0 (MQ below (hp_Qi G rq zq) [.ref a0].toArray s 0 0 (hp_A G)) (F0 m 128 ls [.int s0, .int s1, .ref s2]) := by
                    intro w1 w2 w3 w4 w5 s0 s1 s2 z H locs ls h hP hS hl
                    unfold f_X7_judge_B128 at h
                    refine lv_iadd hx hb dX7_judge_128 ?_
                    obtain ⟨z, q, h⟩ := ho_bd h
                    refine hw_pi X hP hS LX7 fX7_78 rfl rfl rfl q dX7_judge_129 (fun H locs hP hS => ?_)
                    refine lv_aload_n hx hb dX7_judge_132 rfl (lv_at hl 0 rfl) ?_
                    obtain ⟨r20, q, h⟩ := ho_bd h
                    refine hw_gr X hP LX7 fX7_50 rfl q dX7_judge_133 ?_
                    refine lv_aload_n hx hb dX7_judge_136 rfl (lv_at hl 0 rfl) ?_
                    obtain ⟨v21, q, h⟩ := ho_bd h
                    refine hw_gi X hP LX7 fX7_75 rfl q dX7_judge_137 ?_
                    refine lv_sipush (v := 1000) hx hb dX7_judge_140 (by decide) ?_
                    refine lv_iload_n hx hb dX7_judge_143 rfl (lv_at hl 1 rfl) ?_
                    refine lv_imul hx hb dX7_judge_144 ?_
                    refine lv_bipush (v := 50) hx hb dX7_judge_145 (by decide) ?_
                    refine lv_iload_n hx hb dX7_judge_147 rfl (lv_at hl 2 rfl) ?_
                    refine lv_imul hx hb dX7_judge_148 ?_
                    refine lv_iadd hx hb dX7_judge_149 ?_
                    refine lv_bipush (v := 7) hx hb dX7_judge_150 (by decide) ?_
                    refine lv_iload hx hb dX7_judge_152 (lv_at hl 4 rfl) ?_
                    refine lv_imul hx hb dX7_judge_154 ?_
                    refine lv_iadd hx hb dX7_judge_155 ?_
                    refine lv_iload hx hb dX7_judge_156 (lv_at hl 5 rfl) ?_
                    refine lv_iadd hx hb dX7_judge_158 ?_
                    refine lv_iconst (v := 1) hx hb dX7_judge_159 (by decide) ?_
                    refine lv_iadd hx hb dX7_judge_160 ?_
                    obtain ⟨z, q, h⟩ := ho_bd h
                    refine hw_si X hP hS q dX7_judge_161 (fun H locs hP hS => ?_)
                    refine lv_aload_n hx hb dX7_judge_162 rfl (lv_at hl 0 rfl) ?_
                    refine lv_dup hx hb dX7_judge_163 rfl ?_
                    obtain ⟨v22, q, h⟩ := ho_bd h
                    refine hw_gi X hP LX7 fX7_75 rfl q dX7_judge_164 ?_
                    refine lv_iload_n hx hb dX7_judge_167 rfl (lv_at hl 3 rfl) ?_
                    refine lv_if_eq (tgt := 175) hx hb dX7_judge_168 (by decide) (fun hc => ?_) (fun hc => ?_)
                    · replace h := ho_ip hc h
                      refine lv_iconst (v := 1) hx hb dX7_judge_175 (by decide) ?_
                      exact B176 w1 w2 w3 w4 w5 1 v22 a0 z _ _ _ h hP hS (lv_sub hl [0, 1, 2, 3, 4, 5] rfl)
                    · replace h := ho_in hc h
                      refine lv_iconst (v := 0) hx hb dX7_judge_171 (by decide) ?_
                      refine lv_goto (tgt := 176) hx hb dX7_judge_172 (by decide) ?_
                      exact B176 w1 w2 w3 w4 w5 0 v22 a0 z _ _ _ h hP hS (lv_sub hl [0, 1, 2, 3, 4, 5] rfl)
                  intro w1 w2 w3 w4 w5 z H locs ls h hP hS hl
                  rw [f_X7_judge_L80] at h
                  refine lv_iload hx hb dX7_judge_80 (lv_at hl 5 rfl) ?_
                  refine lv_aload_n hx hb dX7_judge_82 rfl (lv_at hl 0 rfl) ?_
                  obtain ⟨v15, q, h⟩ := ho_bd h
                  refine hw_gi X hP LX7 fX7_56 rfl q dX7_judge_83 ?_
                  refine lv_icmp_ge (tgt := 186) hx hb dX7_judge_86 (by decide) (fun hc => ?_) (fun hc => ?_)
                  · replace h := ho_ip hc h
                    exact B186 w1 w2 w3 w4 z _ _ _ h hP hS (lv_sub hl [0, 1, 2, 3, 4] rfl)
                  · replace h := ho_in hc h
                    refine lv_aload_n hx hb dX7_judge_89 rfl (lv_at hl 0 rfl) ?_
                    refine lv_iload_n hx hb dX7_judge_90 rfl (lv_at hl 2 rfl) ?_
                    refine lv_iload hx hb dX7_judge_91 (lv_at hl 4 rfl) ?_
                    refine lv_iload hx hb dX7_judge_93 (lv_at hl 5 rfl) ?_
                    obtain ⟨_, hs, h⟩ := ho_bd h
                    obtain ⟨⟨v16, z⟩, q, h⟩ := ho_bd h
                    refine hw_ci hS (hp_runV (As := [.int w2, .int w4, .int w5]) (rest := []) X hP hS hl.1 LX7 (ho_is_s hs) kX7_159 ⟨m4_6, mp_26⟩ (c_X7_isAbout l G fu a0 w2 w4 w5 _ _ _ q) rfl (Nat.le_of_ble_eq_true rfl) ⟨⟨Nat.le_of_ble_eq_true rfl, Nat.le_of_ble_eq_true rfl⟩, Nat.le_of_ble_eq_true rfl, Nat.le_of_ble_eq_true rfl⟩ dX7_judge_95) (fun H locs hP hS => ?_)
                    refine lv_if_eq (tgt := 180) hx hb dX7_judge_98 (by decide) (fun hc => ?_) (fun hc => ?_)
                    · replace h := ho_ip hc h
                      exact B180 w1 w2 w3 w4 w5 z _ _ _ h hP hS (lv_sub hl [0, 1, 2, 3, 4, 5] rfl)
                    · replace h := ho_in hc h
                      refine lv_aload_n hx hb dX7_judge_101 rfl (lv_at hl 0 rfl) ?_
                      refine lv_iload_n hx hb dX7_judge_102 rfl (lv_at hl 2 rfl) ?_
                      refine lv_iload hx hb dX7_judge_103 (lv_at hl 4 rfl) ?_
                      refine lv_iload hx hb dX7_judge_105 (lv_at hl 5 rfl) ?_
                      refine lv_iload_n hx hb dX7_judge_107 rfl (lv_at hl 1 rfl) ?_
                      obtain ⟨_, hs, h⟩ := ho_bd h
                      obtain ⟨⟨v18, z⟩, q, h⟩ := ho_bd h
                      refine hw_ci hS (hp_runV (As := [.int w2, .int w4, .int w5, .int w1]) (rest := []) X hP hS hl.1 LX7 (ho_is_s hs) kX7_162 ⟨m4_10, mp_27⟩ (c_X7_isBroken l G fu a0 w2 w4 w5 w1 _ _ _ q) rfl (Nat.le_of_ble_eq_true rfl) ⟨⟨Nat.le_of_ble_eq_true rfl, Nat.le_of_ble_eq_true rfl⟩, Nat.le_of_ble_eq_true rfl, Nat.le_of_ble_eq_true rfl⟩ dX7_judge_108) (fun H locs hP hS => ?_)
                      refine lv_if_eq (tgt := 180) hx hb dX7_judge_111 (by decide) (fun hc => ?_) (fun hc => ?_)
                      · replace h := ho_ip hc h
                        exact B180 w1 w2 w3 w4 w5 z _ _ _ h hP hS (lv_sub hl [0, 1, 2, 3, 4, 5] rfl)
                      · replace h := ho_in hc h
                        refine lv_aload_n hx hb dX7_judge_114 rfl (lv_at hl 0 rfl) ?_
                        refine lv_dup hx hb dX7_judge_115 rfl ?_
                        obtain ⟨v19, q, h⟩ := ho_bd h
                        refine hw_gi X hP LX7 fX7_78 rfl q dX7_judge_116 ?_
                        refine lv_iload_n hx hb dX7_judge_119 rfl (lv_at hl 3 rfl) ?_
                        refine lv_if_eq (tgt := 127) hx hb dX7_judge_120 (by decide) (fun hc => ?_) (fun hc => ?_)
                        · replace h := ho_ip hc h
                          refine lv_iconst (v := 0) hx hb dX7_judge_127 (by decide) ?_
                          exact B128 w1 w2 w3 w4 w5 0 v19 a0 z _ _ _ h hP hS (lv_sub hl [0, 1, 2, 3, 4, 5] rfl)
                        · replace h := ho_in hc h
                          refine lv_iconst (v := 1) hx hb dX7_judge_123 (by decide) ?_
                          refine lv_goto (tgt := 128) hx hb dX7_judge_124 (by decide) ?_
                          exact B128 w1 w2 w3 w4 w5 1 v19 a0 z _ _ _ h hP hS (lv_sub hl [0, 1, 2, 3, 4, 5] rfl)
              intro w1 w2 w3 w4 z H locs ls h hP hS hl
              rw [f_X7_judge_L59] at h
              refine lv_iload hx hb dX7_judge_59 (lv_at hl 4 rfl) ?_
              refine lv_aload_n hx hb dX7_judge_61 rfl (lv_at hl 0 rfl) ?_
              obtain ⟨v11, q, h⟩ := ho_bd h
              refine hw_gi X hP LX7 fX7_56 rfl q dX7_judge_62 ?_
              refine lv_icmp_ge (tgt := 192) hx hb dX7_judge_65 (by decide) (fun hc => ?_) (fun hc => ?_)
              · replace h := ho_ip hc h
                exact B192 w1 w2 z _ _ _ h hP hS (lv_sub hl [0, 1, 2] rfl)
              · replace h := ho_in hc h
                refine lv_aload_n hx hb dX7_judge_68 rfl (lv_at hl 0 rfl) ?_
                obtain ⟨r12, q, h⟩ := ho_bd h
                refine hw_gr X hP LX7 fX7_28 rfl q dX7_judge_69 ?_
                refine lv_iload_n hx hb dX7_judge_72 rfl (lv_at hl 2 rfl) ?_
                obtain ⟨v13, q, h⟩ := ho_bd h
                refine hw_lz X hP q dX7_judge_73 ?_
                refine lv_if_eq (tgt := 192) hx hb dX7_judge_74 (by decide) (fun hc => ?_) (fun hc => ?_)
                · replace h := ho_ip hc h
                  exact B192 w1 w2 z _ _ _ h hP hS (lv_sub hl [0, 1, 2] rfl)
                · replace h := ho_in hc h
                  refine lv_iconst (v := (-1)) hx hb dX7_judge_77 (by decide) ?_
                  refine lv_istore (lv' := [(5, .int (-1)), (0, .ref a0), (1, .int w1), (2, .int w2), (3, .int w3), (4, .int w4)]) hx hb dX7_judge_78 hl (by decide) rfl (fun ls hl => ?_)
                  exact L80 fu w1 w2 w3 w4 (-1) z _ _ _ h hP hS (lv_sub hl [1, 2, 3, 4, 5, 0] rfl)
          intro w1 w2 z H locs ls h hP hS hl
          rw [f_X7_judge_L38] at h
          refine lv_iload_n hx hb dX7_judge_38 rfl (lv_at hl 2 rfl) ?_
          refine lv_bipush (v := 14) hx hb dX7_judge_39 (by decide) ?_
          refine lv_icmp_ge (tgt := 198) hx hb dX7_judge_41 (by decide) (fun hc => ?_) (fun hc => ?_)
          · replace h := ho_ip hc h
            exact B198 w1 z _ _ _ h hP hS (lv_sub hl [0, 1] rfl)
          · replace h := ho_in hc h
            refine lv_aload_n hx hb dX7_judge_44 rfl (lv_at hl 0 rfl) ?_
            refine lv_iload_n hx hb dX7_judge_45 rfl (lv_at hl 2 rfl) ?_
            refine lv_aload_n hx hb dX7_judge_46 rfl (lv_at hl 0 rfl) ?_
            obtain ⟨r7, q, h⟩ := ho_bd h
            refine hw_gr X hP LX7 fX7_44 rfl q dX7_judge_47 ?_
            refine lv_iload_n hx hb dX7_judge_50 rfl (lv_at hl 1 rfl) ?_
            obtain ⟨v8, q, h⟩ := ho_bd h
            refine hw_li X hP q dX7_judge_51 ?_
            obtain ⟨_, hs, h⟩ := ho_bd h
            obtain ⟨⟨v9, z⟩, q, h⟩ := ho_bd h
            refine hw_ci hS (hp_runV (As := [.int w2, .int v8]) (rest := []) X hP hS hl.1 LX7 (ho_is_s hs) kX7_106 ⟨m3_238, mp_25⟩ (c_X7_isExcepted l G fu a0 w2 v8 _ _ _ q) rfl (Nat.le_of_ble_eq_true rfl) ⟨⟨Nat.le_of_ble_eq_true rfl, Nat.le_of_ble_eq_true rfl⟩, Nat.le_of_ble_eq_true rfl, Nat.le_of_ble_eq_true rfl⟩ dX7_judge_52) (fun H locs hP hS => ?_)
            refine lv_istore_n (lv' := [(3, .int v9), (0, .ref a0), (1, .int w1), (2, .int w2)]) hx hb dX7_judge_55 rfl hl (by decide) rfl (fun ls hl => ?_)
            refine lv_iconst (v := 0) hx hb dX7_judge_56 (by decide) ?_
            refine lv_istore (lv' := [(4, .int 0), (3, .int v9), (0, .ref a0), (1, .int w1), (2, .int w2)]) hx hb dX7_judge_57 hl (by decide) rfl (fun ls hl => ?_)
            exact L59 fu w1 w2 v9 0 z _ _ _ h hP hS (lv_sub hl [2, 3, 4, 1, 0] rfl)
      intro w1 z H locs ls h hP hS hl
      rw [f_X7_judge_L16] at h
      refine lv_iload_n hx hb dX7_judge_16 rfl (lv_at hl 1 rfl) ?_
      refine lv_aload_n hx hb dX7_judge_17 rfl (lv_at hl 0 rfl) ?_
      obtain ⟨v2, q, h⟩ := ho_bd h
      refine hw_gi X hP LX7 fX7_100 rfl q dX7_judge_18 ?_
      refine lv_icmp_ge (tgt := 204) hx hb dX7_judge_21 (by decide) (fun hc => ?_) (fun hc => ?_)
      · replace h := ho_ip hc h
        exact B204 z _ _ _ h hP hS (lv_sub hl [0] rfl)
      · replace h := ho_in hc h
        refine lv_aload_n hx hb dX7_judge_24 rfl (lv_at hl 0 rfl) ?_
        obtain ⟨r3, q, h⟩ := ho_bd h
        refine hw_gr X hP LX7 fX7_53 rfl q dX7_judge_25 ?_
        refine lv_iload_n hx hb dX7_judge_28 rfl (lv_at hl 1 rfl) ?_
        refine lv_aload_n hx hb dX7_judge_29 rfl (lv_at hl 0 rfl) ?_
        obtain ⟨r4, q, h⟩ := ho_bd h
        refine hw_gr X hP LX7 fX7_44 rfl q dX7_judge_30 ?_
        refine lv_iload_n hx hb dX7_judge_33 rfl (lv_at hl 1 rfl) ?_
        obtain ⟨v5, q, h⟩ := ho_bd h
        refine hw_li X hP q dX7_judge_34 ?_
        obtain ⟨z, q, h⟩ := ho_bd h
        refine hw_si X hP hS q dX7_judge_35 (fun H locs hP hS => ?_)
        refine lv_iconst (v := 0) hx hb dX7_judge_36 (by decide) ?_
        refine lv_istore_n (lv' := [(2, .int 0), (0, .ref a0), (1, .int w1)]) hx hb dX7_judge_37 rfl hl (by decide) rfl (fun ls hl => ?_)
        exact L38 fu w1 0 z _ _ _ h hP hS (lv_sub hl [1, 2, 0] rfl)
  unfold f_X7_judge at h
  refine lv_aload_n hx hb dX7_judge_0 rfl (lv_at hl 0 rfl) ?_
  obtain ⟨_, hs, h⟩ := ho_bd h
  obtain ⟨z, q, h⟩ := ho_bd h
  refine hw_cv hS (hp_runV (As := []) (rest := []) X hP hS hl.1 LX7 (ho_is_s hs) kX7_103 ⟨m3_226, mp_24⟩ (c_X7_learn l G fu a0 _ _ q) rfl (Nat.le_of_ble_eq_true rfl) ⟨⟨Nat.le_of_ble_eq_true rfl, Nat.le_of_ble_eq_true rfl⟩, Nat.le_of_ble_eq_true rfl, Nat.le_of_ble_eq_true rfl⟩ dX7_judge_1) (fun H locs hP hS => ?_)
  refine lv_aload_n hx hb dX7_judge_4 rfl (lv_at hl 0 rfl) ?_
  refine lv_iconst (v := 0) hx hb dX7_judge_5 (by decide) ?_
  obtain ⟨z, q, h⟩ := ho_bd h
  refine hw_pi X hP hS LX7 fX7_75 rfl rfl rfl q dX7_judge_6 (fun H locs hP hS => ?_)
  refine lv_aload_n hx hb dX7_judge_9 rfl (lv_at hl 0 rfl) ?_
  refine lv_iconst (v := 0) hx hb dX7_judge_10 (by decide) ?_
  obtain ⟨z, q, h⟩ := ho_bd h
  refine hw_pi X hP hS LX7 fX7_78 rfl rfl rfl q dX7_judge_11 (fun H locs hP hS => ?_)
  refine lv_iconst (v := 0) hx hb dX7_judge_14 (by decide) ?_
  refine lv_istore_n (lv' := [(1, .int 0), (0, .ref a0)]) hx hb dX7_judge_15 rfl hl (by decide) rfl (fun ls hl => ?_)
  exact L16 fu 0 z _ _ _ h hP hS (lv_sub hl [1, 0] rfl)
