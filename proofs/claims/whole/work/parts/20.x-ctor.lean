def f_X4_init (fu : Nat) (a0 : Nat) (z : hp_S) : Option hp_S :=
  (ho_na 1 24 24 z).bind fun ⟨r1, z⟩ =>
  (ho_pr 4 a0 0 r1 z).bind fun z =>
  (ho_na 1 24 24 z).bind fun ⟨r2, z⟩ =>
  (ho_pr 4 a0 1 r2 z).bind fun z =>
  (ho_na 1 24 24 z).bind fun ⟨r3, z⟩ =>
  (ho_pr 4 a0 2 r3 z).bind fun z =>
  (ho_pi 4 a0 4 0 z).bind fun z =>
  (ho_pi 4 a0 5 96 z).bind fun z =>
  some z
set_option maxHeartbeats 4000000 in
set_option maxRecDepth 100000 in
theorem c_X4_init (l : Launch) (G : hp_G) (fu : Nat) (a0 : Nat) (z zq : hp_S) (h : f_X4_init fu a0 z = some zq) : hp_M l G yX4_init cX4_init 1 none 1 20 3 72 [.ref a0] z (hp_Qv G zq) := by
  refine hp_M.of (by decide) (Nat.le_of_ble_eq_true rfl) ?_
  intro p e s m below meth c X hr hlocks hnm hP hS ls hl
  have X : hp_C G cX4_init RX4 1 p s m c := X
  have hl : lv_has ls 1 [(0, .ref a0)] := hl
  have hx := X.1
  have hb := X.2.1
  unfold f_X4_init at h
  refine lv_aload_n hx hb dX4_init_0 rfl (lv_at hl 0 rfl) ?_
  refine W.objInit hx hb X.2.2.1 (hp_use X.2.2.2.2.1 m1_33 _) (hp_use X.2.2.2.2.1 m1_19 _) (hp_use X.2.2.2.2.1 m1_20 _) rfl (by rw [X.2.2.2.1]; exact hl.1) rfl dX4_init_1 (Nat.le_of_ble_eq_true rfl) (Nat.le_of_ble_eq_true rfl) ?_
  refine W.eq (g2 := F0 m 4 ls []) rfl ?_
  refine lv_aload_n hx hb dX4_init_4 rfl (lv_at hl 0 rfl) ?_
  refine lv_bipush (v := 24) hx hb dX4_init_5 (by decide) ?_
  obtain ⟨⟨r1, z⟩, q, h⟩ := ho_bd h
  refine hw_nI X hP hS m1_63 (by decide) (Nat.le_of_ble_eq_true rfl) (Nat.le_of_ble_eq_true rfl) q dX4_init_7 (fun H hP hS => ?_)
  obtain ⟨z, q, h⟩ := ho_bd h
  refine hw_prF X hP hS LX4 fX4_9 rfl rfl hnm rfl rfl rfl q dX4_init_9 (fun H locs hP hS => ?_)
  refine lv_aload_n hx hb dX4_init_12 rfl (lv_at hl 0 rfl) ?_
  refine lv_bipush (v := 24) hx hb dX4_init_13 (by decide) ?_
  obtain ⟨⟨r2, z⟩, q, h⟩ := ho_bd h
  refine hw_nI X hP hS m1_63 (by decide) (Nat.le_of_ble_eq_true rfl) (Nat.le_of_ble_eq_true rfl) q dX4_init_15 (fun H hP hS => ?_)
  obtain ⟨z, q, h⟩ := ho_bd h
  refine hw_prF X hP hS LX4 fX4_15 rfl rfl hnm rfl rfl rfl q dX4_init_17 (fun H locs hP hS => ?_)
  refine lv_aload_n hx hb dX4_init_20 rfl (lv_at hl 0 rfl) ?_
  refine lv_bipush (v := 24) hx hb dX4_init_21 (by decide) ?_
  obtain ⟨⟨r3, z⟩, q, h⟩ := ho_bd h
  refine hw_nI X hP hS m1_63 (by decide) (Nat.le_of_ble_eq_true rfl) (Nat.le_of_ble_eq_true rfl) q dX4_init_23 (fun H hP hS => ?_)
  obtain ⟨z, q, h⟩ := ho_bd h
  refine hw_prF X hP hS LX4 fX4_18 rfl rfl hnm rfl rfl rfl q dX4_init_25 (fun H locs hP hS => ?_)
  refine lv_aload_n hx hb dX4_init_28 rfl (lv_at hl 0 rfl) ?_
  refine lv_iconst (v := 0) hx hb dX4_init_29 (by decide) ?_
  obtain ⟨z, q, h⟩ := ho_bd h
  refine hw_pi X hP hS LX4 fX4_21 rfl rfl rfl q dX4_init_30 (fun H locs hP hS => ?_)
  refine lv_aload_n hx hb dX4_init_33 rfl (lv_at hl 0 rfl) ?_
  refine lv_bipush (v := 96) hx hb dX4_init_34 (by decide) ?_
  obtain ⟨z, q, h⟩ := ho_bd h
  refine hw_pi X hP hS LX4 fX4_25 rfl rfl rfl q dX4_init_36 (fun H locs hP hS => ?_)
  refine W.widen (k := 3) (n := 72) (Nat.le_of_ble_eq_true rfl) (Nat.le_of_ble_eq_true rfl) ?_
  exact hw_vret X hP hS hr hlocks h dX4_init_39
def f_X5_init (fu : Nat) (a0 : Nat) (z : hp_S) : Option hp_S :=
  (ho_na 1 120 120 z).bind fun ⟨r1, z⟩ =>
  (ho_pr 5 a0 0 r1 z).bind fun z =>
  (ho_na 1 5 5 z).bind fun ⟨r2, z⟩ =>
  (ho_pr 5 a0 2 r2 z).bind fun z =>
  some z
set_option maxHeartbeats 4000000 in
set_option maxRecDepth 100000 in
theorem c_X5_init (l : Launch) (G : hp_G) (fu : Nat) (a0 : Nat) (z zq : hp_S) (h : f_X5_init fu a0 z = some zq) : hp_M l G yX5_init cX5_init 1 none 1 20 2 125 [.ref a0] z (hp_Qv G zq) := by
  refine hp_M.of (by decide) (Nat.le_of_ble_eq_true rfl) ?_
  intro p e s m below meth c X hr hlocks hnm hP hS ls hl
  have X : hp_C G cX5_init RX5 1 p s m c := X
  have hl : lv_has ls 1 [(0, .ref a0)] := hl
  have hx := X.1
  have hb := X.2.1
  unfold f_X5_init at h
  refine lv_aload_n hx hb dX5_init_0 rfl (lv_at hl 0 rfl) ?_
  refine W.objInit hx hb X.2.2.1 (hp_use X.2.2.2.2.1 m1_69 _) (hp_use X.2.2.2.2.1 m1_19 _) (hp_use X.2.2.2.2.1 m1_20 _) rfl (by rw [X.2.2.2.1]; exact hl.1) rfl dX5_init_1 (Nat.le_of_ble_eq_true rfl) (Nat.le_of_ble_eq_true rfl) ?_
  refine W.eq (g2 := F0 m 4 ls []) rfl ?_
  refine lv_aload_n hx hb dX5_init_4 rfl (lv_at hl 0 rfl) ?_
  refine lv_bipush (v := 120) hx hb dX5_init_5 (by decide) ?_
  obtain ⟨⟨r1, z⟩, q, h⟩ := ho_bd h
  refine hw_nI X hP hS m1_63 (by decide) (Nat.le_of_ble_eq_true rfl) (Nat.le_of_ble_eq_true rfl) q dX5_init_7 (fun H hP hS => ?_)
  obtain ⟨z, q, h⟩ := ho_bd h
  refine hw_prF X hP hS LX5 fX5_9 rfl rfl hnm rfl rfl rfl q dX5_init_9 (fun H locs hP hS => ?_)
  refine lv_aload_n hx hb dX5_init_12 rfl (lv_at hl 0 rfl) ?_
  refine lv_iconst (v := 5) hx hb dX5_init_13 (by decide) ?_
  obtain ⟨⟨r2, z⟩, q, h⟩ := ho_bd h
  refine hw_nI X hP hS m1_63 (by decide) (Nat.le_of_ble_eq_true rfl) (Nat.le_of_ble_eq_true rfl) q dX5_init_14 (fun H hP hS => ?_)
  obtain ⟨z, q, h⟩ := ho_bd h
  refine hw_prF X hP hS LX5 fX5_15 rfl rfl hnm rfl rfl rfl q dX5_init_16 (fun H locs hP hS => ?_)
  refine W.widen (k := 2) (n := 125) (Nat.le_of_ble_eq_true rfl) (Nat.le_of_ble_eq_true rfl) ?_
  exact hw_vret X hP hS hr hlocks h dX5_init_19
def f_X1_init (fu : Nat) (a0 : Nat) (x1 : Int32) (z : hp_S) : Option hp_S :=
  (ho_id (if 0 < x1 then x1 else 0)).bind fun v1 =>
  (ho_na 1 20 v1 z).bind fun ⟨r2, z⟩ =>
  (ho_pr 1 a0 0 r2 z).bind fun z =>
  (ho_na 1 20 v1 z).bind fun ⟨r3, z⟩ =>
  (ho_pr 1 a0 1 r3 z).bind fun z =>
  some z
set_option maxHeartbeats 4000000 in
set_option maxRecDepth 100000 in
theorem c_X1_init (l : Launch) (G : hp_G) (fu : Nat) (a0 : Nat) (x1 : Int32) (z zq : hp_S) (h : f_X1_init fu a0 x1 z = some zq) : hp_M l G yX1_init cX1_init 3 none 1 21 2 40 [.ref a0, .int x1] z (hp_Qv G zq) := by
  refine hp_M.of (by decide) (Nat.le_of_ble_eq_true rfl) ?_
  intro p e s m below meth c X hr hlocks hnm hP hS ls hl
  have X : hp_C G cX1_init RX1 3 p s m c := X
  have hl : lv_has ls 3 [(0, .ref a0), (1, .int x1)] := hl
  have hx := X.1
  have hb := X.2.1
  unfold f_X1_init at h
  refine lv_aload_n hx hb dX1_init_0 rfl (lv_at hl 0 rfl) ?_
  refine W.objInit hx hb X.2.2.1 (hp_use X.2.2.2.2.1 m1_91 _) (hp_use X.2.2.2.2.1 m1_19 _) (hp_use X.2.2.2.2.1 m1_20 _) rfl (by rw [X.2.2.2.1]; exact hl.1) rfl dX1_init_1 (Nat.le_of_ble_eq_true rfl) (Nat.le_of_ble_eq_true rfl) ?_
  refine W.eq (g2 := F0 m 4 ls []) rfl ?_
  refine lv_iconst (v := 0) hx hb dX1_init_4 (by decide) ?_
  refine lv_iload_n hx hb dX1_init_5 rfl (lv_at hl 1 rfl) ?_
  refine va_mmax hx hb (X.2.2.2.1.trans hl.1.symm) X.2.2.1 (hp_use X.2.2.2.2.1 m1_92 _) (hp_use X.2.2.2.2.1 m1_25 _) (hp_use X.2.2.2.2.1 m1_2 _) (hp_use X.2.2.2.2.1 m1_26 _) (Nat.le_of_ble_eq_true rfl) (Nat.le_of_ble_eq_true rfl) (Nat.zero_le _) (Nat.zero_le _) dX1_init_6 ?_
  obtain ⟨v1, q, h⟩ := ho_bd h
  refine hw_id q ?_
  refine lv_istore_n (lv' := [(2, .int v1), (0, .ref a0), (1, .int x1)]) hx hb dX1_init_9 rfl hl (by decide) rfl (fun ls hl => ?_)
  refine lv_aload_n hx hb dX1_init_10 rfl (lv_at hl 1 rfl) ?_
  refine lv_iload_n hx hb dX1_init_11 rfl (lv_at hl 0 rfl) ?_
  obtain ⟨⟨r2, z⟩, q, h⟩ := ho_bd h
  refine hw_nI X hP hS m1_63 (by decide) (Nat.le_of_ble_eq_true rfl) (Nat.le_of_ble_eq_true rfl) q dX1_init_12 (fun H hP hS => ?_)
  obtain ⟨z, q, h⟩ := ho_bd h
  refine hw_prF X hP hS LX1 fX1_15 rfl rfl hnm rfl rfl rfl q dX1_init_14 (fun H locs hP hS => ?_)
  refine lv_aload_n hx hb dX1_init_17 rfl (lv_at hl 1 rfl) ?_
  refine lv_iload_n hx hb dX1_init_18 rfl (lv_at hl 0 rfl) ?_
  obtain ⟨⟨r3, z⟩, q, h⟩ := ho_bd h
  refine hw_nI X hP hS m1_63 (by decide) (Nat.le_of_ble_eq_true rfl) (Nat.le_of_ble_eq_true rfl) q dX1_init_19 (fun H hP hS => ?_)
  obtain ⟨z, q, h⟩ := ho_bd h
  refine hw_prF X hP hS LX1 fX1_21 rfl rfl hnm rfl rfl rfl q dX1_init_21 (fun H locs hP hS => ?_)
  refine W.widen (k := 2) (n := 40) (Nat.le_of_ble_eq_true rfl) (Nat.le_of_ble_eq_true rfl) ?_
  exact hw_vret X hP hS hr hlocks h dX1_init_24
def f_X2_init (fu : Nat) (a0 : Nat) (z : hp_S) : Option hp_S :=
  (ho_na 1 1680 1680 z).bind fun ⟨r1, z⟩ =>
  (ho_pr 2 a0 0 r1 z).bind fun z =>
  (ho_na 1 120 120 z).bind fun ⟨r2, z⟩ =>
  (ho_pr 2 a0 1 r2 z).bind fun z =>
  (ho_na 1 14 14 z).bind fun ⟨r3, z⟩ =>
  (ho_pr 2 a0 3 r3 z).bind fun z =>
  some z
set_option maxHeartbeats 4000000 in
set_option maxRecDepth 100000 in
theorem c_X2_init (l : Launch) (G : hp_G) (fu : Nat) (a0 : Nat) (z zq : hp_S) (h : f_X2_init fu a0 z = some zq) : hp_M l G yX2_init cX2_init 1 none 1 20 3 1814 [.ref a0] z (hp_Qv G zq) := by
  refine hp_M.of (by decide) (Nat.le_of_ble_eq_true rfl) ?_
  intro p e s m below meth c X hr hlocks hnm hP hS ls hl
  have X : hp_C G cX2_init RX2 1 p s m c := X
  have hl : lv_has ls 1 [(0, .ref a0)] := hl
  have hx := X.1
  have hb := X.2.1
  unfold f_X2_init at h
  refine lv_aload_n hx hb dX2_init_0 rfl (lv_at hl 0 rfl) ?_
  refine W.objInit hx hb X.2.2.1 (hp_use X.2.2.2.2.1 m1_117 _) (hp_use X.2.2.2.2.1 m1_19 _) (hp_use X.2.2.2.2.1 m1_20 _) rfl (by rw [X.2.2.2.1]; exact hl.1) rfl dX2_init_1 (Nat.le_of_ble_eq_true rfl) (Nat.le_of_ble_eq_true rfl) ?_
  refine W.eq (g2 := F0 m 4 ls []) rfl ?_
  refine lv_aload_n hx hb dX2_init_4 rfl (lv_at hl 0 rfl) ?_
  refine lv_sipush (v := 1680) hx hb dX2_init_5 (by decide) ?_
  obtain ⟨⟨r1, z⟩, q, h⟩ := ho_bd h
  refine hw_nI X hP hS m1_63 (by decide) (Nat.le_of_ble_eq_true rfl) (Nat.le_of_ble_eq_true rfl) q dX2_init_8 (fun H hP hS => ?_)
  obtain ⟨z, q, h⟩ := ho_bd h
  refine hw_prF X hP hS LX2 fX2_9 rfl rfl hnm rfl rfl rfl q dX2_init_10 (fun H locs hP hS => ?_)
  refine lv_aload_n hx hb dX2_init_13 rfl (lv_at hl 0 rfl) ?_
  refine lv_bipush (v := 120) hx hb dX2_init_14 (by decide) ?_
  obtain ⟨⟨r2, z⟩, q, h⟩ := ho_bd h
  refine hw_nI X hP hS m1_63 (by decide) (Nat.le_of_ble_eq_true rfl) (Nat.le_of_ble_eq_true rfl) q dX2_init_16 (fun H hP hS => ?_)
  obtain ⟨z, q, h⟩ := ho_bd h
  refine hw_prF X hP hS LX2 fX2_15 rfl rfl hnm rfl rfl rfl q dX2_init_18 (fun H locs hP hS => ?_)
  refine lv_aload_n hx hb dX2_init_21 rfl (lv_at hl 0 rfl) ?_
  refine lv_bipush (v := 14) hx hb dX2_init_22 (by decide) ?_
  obtain ⟨⟨r3, z⟩, q, h⟩ := ho_bd h
  refine hw_nI X hP hS m1_63 (by decide) (Nat.le_of_ble_eq_true rfl) (Nat.le_of_ble_eq_true rfl) q dX2_init_24 (fun H hP hS => ?_)
  obtain ⟨z, q, h⟩ := ho_bd h
  refine hw_prF X hP hS LX2 fX2_18 rfl rfl hnm rfl rfl rfl q dX2_init_26 (fun H locs hP hS => ?_)
  refine W.widen (k := 3) (n := 1814) (Nat.le_of_ble_eq_true rfl) (Nat.le_of_ble_eq_true rfl) ?_
  exact hw_vret X hP hS hr hlocks h dX2_init_29
def f_X0_init (fu : Nat) (a0 : Nat) (z : hp_S) : Option hp_S :=
  (ho_na 2 5 5 z).bind fun ⟨r1, z⟩ =>
  (ho_pr 0 a0 0 r1 z).bind fun z =>
  (ho_na 1 5 5 z).bind fun ⟨r2, z⟩ =>
  (ho_pr 0 a0 1 r2 z).bind fun z =>
  (ho_na 1 5 5 z).bind fun ⟨r3, z⟩ =>
  (ho_pr 0 a0 2 r3 z).bind fun z =>
  (ho_na 1 5 5 z).bind fun ⟨r4, z⟩ =>
  (ho_pr 0 a0 3 r4 z).bind fun z =>
  some z
set_option maxHeartbeats 4000000 in
set_option maxRecDepth 100000 in
theorem c_X0_init (l : Launch) (G : hp_G) (fu : Nat) (a0 : Nat) (z zq : hp_S) (h : f_X0_init fu a0 z = some zq) : hp_M l G yX0_init cX0_init 1 none 1 20 4 20 [.ref a0] z (hp_Qv G zq) := by
  refine hp_M.of (by decide) (Nat.le_of_ble_eq_true rfl) ?_
  intro p e s m below meth c X hr hlocks hnm hP hS ls hl
  have X : hp_C G cX0_init RX0 1 p s m c := X
  have hl : lv_has ls 1 [(0, .ref a0)] := hl
  have hx := X.1
  have hb := X.2.1
  unfold f_X0_init at h
  refine lv_aload_n hx hb dX0_init_0 rfl (lv_at hl 0 rfl) ?_
  refine W.objInit hx hb X.2.2.1 (hp_use X.2.2.2.2.1 m1_145 _) (hp_use X.2.2.2.2.1 m1_19 _) (hp_use X.2.2.2.2.1 m1_20 _) rfl (by rw [X.2.2.2.1]; exact hl.1) rfl dX0_init_1 (Nat.le_of_ble_eq_true rfl) (Nat.le_of_ble_eq_true rfl) ?_
  refine W.eq (g2 := F0 m 4 ls []) rfl ?_
  refine lv_aload_n hx hb dX0_init_4 rfl (lv_at hl 0 rfl) ?_
  refine lv_iconst (v := 5) hx hb dX0_init_5 (by decide) ?_
  obtain ⟨⟨r1, z⟩, q, h⟩ := ho_bd h
  refine hw_nZ X hP hS m1_165 (by decide) (Nat.le_of_ble_eq_true rfl) (Nat.le_of_ble_eq_true rfl) q dX0_init_6 (fun H hP hS => ?_)
  obtain ⟨z, q, h⟩ := ho_bd h
  refine hw_prF X hP hS LX0 fX0_9 rfl rfl hnm rfl rfl rfl q dX0_init_8 (fun H locs hP hS => ?_)
  refine lv_aload_n hx hb dX0_init_11 rfl (lv_at hl 0 rfl) ?_
  refine lv_iconst (v := 5) hx hb dX0_init_12 (by decide) ?_
  obtain ⟨⟨r2, z⟩, q, h⟩ := ho_bd h
  refine hw_nI X hP hS m1_63 (by decide) (Nat.le_of_ble_eq_true rfl) (Nat.le_of_ble_eq_true rfl) q dX0_init_13 (fun H hP hS => ?_)
  obtain ⟨z, q, h⟩ := ho_bd h
  refine hw_prF X hP hS LX0 fX0_15 rfl rfl hnm rfl rfl rfl q dX0_init_15 (fun H locs hP hS => ?_)
  refine lv_aload_n hx hb dX0_init_18 rfl (lv_at hl 0 rfl) ?_
  refine lv_iconst (v := 5) hx hb dX0_init_19 (by decide) ?_
  obtain ⟨⟨r3, z⟩, q, h⟩ := ho_bd h
  refine hw_nI X hP hS m1_63 (by decide) (Nat.le_of_ble_eq_true rfl) (Nat.le_of_ble_eq_true rfl) q dX0_init_20 (fun H hP hS => ?_)
  obtain ⟨z, q, h⟩ := ho_bd h
  refine hw_prF X hP hS LX0 fX0_19 rfl rfl hnm rfl rfl rfl q dX0_init_22 (fun H locs hP hS => ?_)
  refine lv_aload_n hx hb dX0_init_25 rfl (lv_at hl 0 rfl) ?_
  refine lv_iconst (v := 5) hx hb dX0_init_26 (by decide) ?_
  obtain ⟨⟨r4, z⟩, q, h⟩ := ho_bd h
  refine hw_nI X hP hS m1_63 (by decide) (Nat.le_of_ble_eq_true rfl) (Nat.le_of_ble_eq_true rfl) q dX0_init_27 (fun H hP hS => ?_)
  obtain ⟨z, q, h⟩ := ho_bd h
  refine hw_prF X hP hS LX0 fX0_22 rfl rfl hnm rfl rfl rfl q dX0_init_29 (fun H locs hP hS => ?_)
  refine W.widen (k := 4) (n := 20) (Nat.le_of_ble_eq_true rfl) (Nat.le_of_ble_eq_true rfl) ?_
  exact hw_vret X hP hS hr hlocks h dX0_init_32
def f_X3_init (fu : Nat) (a0 : Nat) (z : hp_S) : Option hp_S :=
  (ho_nw (2 + 3) z).bind fun ⟨r1, z⟩ =>
  (f_X2_init fu r1 z).bind fun z =>
  (ho_pr 3 a0 0 r1 z).bind fun z =>
  (ho_nw (0 + 3) z).bind fun ⟨r2, z⟩ =>
  (f_X0_init fu r2 z).bind fun z =>
  (ho_pr 3 a0 1 r2 z).bind fun z =>
  (ho_nw (0 + 3) z).bind fun ⟨r3, z⟩ =>
  (f_X0_init fu r3 z).bind fun z =>
  (ho_pr 3 a0 2 r3 z).bind fun z =>
  some z
set_option maxHeartbeats 4000000 in
set_option maxRecDepth 100000 in
theorem c_X3_init (l : Launch) (G : hp_G) (fu : Nat) (a0 : Nat) (z zq : hp_S) (h : f_X3_init fu a0 z = some zq) : hp_M l G yX3_init cX3_init 1 none 2 40 14 1868 [.ref a0] z (hp_Qv G zq) := by
  refine hp_M.of (by decide) (Nat.le_of_ble_eq_true rfl) ?_
  intro p e s m below meth c X hr hlocks hnm hP hS ls hl
  have X : hp_C G cX3_init RX3 1 p s m c := X
  have hl : lv_has ls 1 [(0, .ref a0)] := hl
  have hx := X.1
  have hb := X.2.1
  unfold f_X3_init at h
  refine lv_aload_n hx hb dX3_init_0 rfl (lv_at hl 0 rfl) ?_
  refine W.objInit hx hb X.2.2.1 (hp_use X.2.2.2.2.1 m1_111 _) (hp_use X.2.2.2.2.1 m1_19 _) (hp_use X.2.2.2.2.1 m1_20 _) rfl (by rw [X.2.2.2.1]; exact hl.1) rfl dX3_init_1 (Nat.le_of_ble_eq_true rfl) (Nat.le_of_ble_eq_true rfl) ?_
  refine W.eq (g2 := F0 m 4 ls []) rfl ?_
  refine lv_aload_n hx hb dX3_init_4 rfl (lv_at hl 0 rfl) ?_
  obtain ⟨⟨r1, z⟩, q, h⟩ := ho_bd h
  refine hw_nw X hP hS LX2 ⟨m1_112, m1_113, m1_7⟩ (by decide) (Nat.le_of_ble_eq_true rfl) (Nat.le_of_ble_eq_true rfl) q dX3_init_5 (fun H hP hS => ?_)
  refine lv_dup hx hb dX3_init_8 rfl ?_
  obtain ⟨z, q, h⟩ := ho_bd h
  refine hw_cv hS (hp_runI (As := []) (rest := [.ref r1, .ref a0]) X hP hS hl.1 kX3_11 m1_115 rfl (c_X2_init l G fu r1 _ _ q) rfl (Nat.le_of_ble_eq_true rfl) ⟨⟨Nat.le_of_ble_eq_true rfl, Nat.le_of_ble_eq_true rfl⟩, Nat.le_of_ble_eq_true rfl, Nat.le_of_ble_eq_true rfl⟩ dX3_init_9) (fun H locs hP hS => ?_)
  obtain ⟨z, q, h⟩ := ho_bd h
  refine hw_prF X hP hS LX3 fX3_12 rfl rfl hnm rfl rfl rfl q dX3_init_12 (fun H locs hP hS => ?_)
  refine lv_aload_n hx hb dX3_init_15 rfl (lv_at hl 0 rfl) ?_
  obtain ⟨⟨r2, z⟩, q, h⟩ := ho_bd h
  refine hw_nw X hP hS LX0 ⟨m1_140, m1_141, m1_8⟩ (by decide) (Nat.le_of_ble_eq_true rfl) (Nat.le_of_ble_eq_true rfl) q dX3_init_16 (fun H hP hS => ?_)
  refine lv_dup hx hb dX3_init_19 rfl ?_
  obtain ⟨z, q, h⟩ := ho_bd h
  refine hw_cv hS (hp_runI (As := []) (rest := [.ref r2, .ref a0]) X hP hS hl.1 kX3_20 m1_143 rfl (c_X0_init l G fu r2 _ _ q) rfl (Nat.le_of_ble_eq_true rfl) ⟨⟨Nat.le_of_ble_eq_true rfl, Nat.le_of_ble_eq_true rfl⟩, Nat.le_of_ble_eq_true rfl, Nat.le_of_ble_eq_true rfl⟩ dX3_init_20) (fun H locs hP hS => ?_)
  obtain ⟨z, q, h⟩ := ho_bd h
  refine hw_pr X hP hS LX3 fX3_21 rfl rfl rfl rfl q dX3_init_23 (fun H locs hP hS => ?_)
  refine lv_aload_n hx hb dX3_init_26 rfl (lv_at hl 0 rfl) ?_
  obtain ⟨⟨r3, z⟩, q, h⟩ := ho_bd h
  refine hw_nw X hP hS LX0 ⟨m1_140, m1_141, m1_8⟩ (by decide) (Nat.le_of_ble_eq_true rfl) (Nat.le_of_ble_eq_true rfl) q dX3_init_27 (fun H hP hS => ?_)
  refine lv_dup hx hb dX3_init_30 rfl ?_
  obtain ⟨z, q, h⟩ := ho_bd h
  refine hw_cv hS (hp_runI (As := []) (rest := [.ref r3, .ref a0]) X hP hS hl.1 kX3_20 m1_143 rfl (c_X0_init l G fu r3 _ _ q) rfl (Nat.le_of_ble_eq_true rfl) ⟨⟨Nat.le_of_ble_eq_true rfl, Nat.le_of_ble_eq_true rfl⟩, Nat.le_of_ble_eq_true rfl, Nat.le_of_ble_eq_true rfl⟩ dX3_init_31) (fun H locs hP hS => ?_)
  obtain ⟨z, q, h⟩ := ho_bd h
  refine hw_pr X hP hS LX3 fX3_25 rfl rfl rfl rfl q dX3_init_34 (fun H locs hP hS => ?_)
  refine W.widen (k := 14) (n := 1868) (Nat.le_of_ble_eq_true rfl) (Nat.le_of_ble_eq_true rfl) ?_
  exact hw_vret X hP hS hr hlocks h dX3_init_37
def f_X6_init_B52 (fu : Nat) (a0 : Nat) (x1 : Int32) (z : hp_S) : Option hp_S :=
  (ho_nw (5 + 3) z).bind fun ⟨r6, z⟩ =>
  (f_X5_init fu r6 z).bind fun z =>
  (ho_pr 6 a0 1 r6 z).bind fun z =>
  (ho_nw (1 + 3) z).bind fun ⟨r7, z⟩ =>
  (f_X1_init fu r7 4 z).bind fun z =>
  (ho_pr 6 a0 2 r7 z).bind fun z =>
  (ho_nw (1 + 3) z).bind fun ⟨r8, z⟩ =>
  (f_X1_init fu r8 20 z).bind fun z =>
  (ho_pr 6 a0 3 r8 z).bind fun z =>
  (ho_nw (3 + 3) z).bind fun ⟨r9, z⟩ =>
  (f_X3_init fu r9 z).bind fun z =>
  (ho_pr 6 a0 4 r9 z).bind fun z =>
  (ho_nw (0 + 3) z).bind fun ⟨r10, z⟩ =>
  (f_X0_init fu r10 z).bind fun z =>
  (ho_pr 6 a0 5 r10 z).bind fun z =>
  (ho_tl h_t0 0).bind fun v11 =>
  (ho_pi 6 a0 6 v11 z).bind fun z =>
  some z
def f_X6_init (fu : Nat) (a0 : Nat) (x1 : Int32) (z : hp_S) : Option hp_S :=
  (ho_id (if x1 < 5 then x1 else 5)).bind fun v1 =>
  (ho_id (if 2 < v1 then v1 else 2)).bind fun v2 =>
  (ho_na (4 + 53) 5 v2 z).bind fun ⟨r3, z⟩ =>
  (ho_pr 6 a0 0 r3 z).bind fun z =>
  (ho_gr 6 a0 0 z).bind fun r4 =>
  (ho_ln (4 + 53) r4 z).bind fun v5 =>
  if v5 ≤ 0 then (
    f_X6_init_B52 fu a0 x1  z
  ) else (
    (ho_gr 6 a0 0 z).bind fun r12 =>
    (ho_nw (4 + 3) z).bind fun ⟨r13, z⟩ =>
    (f_X4_init fu r13 z).bind fun z =>
    (ho_sr 4 r12 0 r13 z).bind fun z =>
    (ho_id (0 + 1)).bind fun v14 =>
    (ho_gr 6 a0 0 z).bind fun r15 =>
    (ho_ln (4 + 53) r15 z).bind fun v16 =>
    if v16 ≤ v14 then (
      f_X6_init_B52 fu a0 x1  z
    ) else (
      (ho_gr 6 a0 0 z).bind fun r17 =>
      (ho_nw (4 + 3) z).bind fun ⟨r18, z⟩ =>
      (f_X4_init fu r18 z).bind fun z =>
      (ho_sr 4 r17 v14 r18 z).bind fun z =>
      (ho_id (v14 + 1)).bind fun v19 =>
      (ho_gr 6 a0 0 z).bind fun r20 =>
      (ho_ln (4 + 53) r20 z).bind fun v21 =>
      if v21 ≤ v19 then (
        f_X6_init_B52 fu a0 x1  z
      ) else (
        (ho_gr 6 a0 0 z).bind fun r22 =>
        (ho_nw (4 + 3) z).bind fun ⟨r23, z⟩ =>
        (f_X4_init fu r23 z).bind fun z =>
        (ho_sr 4 r22 v19 r23 z).bind fun z =>
        (ho_id (v19 + 1)).bind fun v24 =>
        (ho_gr 6 a0 0 z).bind fun r25 =>
        (ho_ln (4 + 53) r25 z).bind fun v26 =>
        if v26 ≤ v24 then (
          f_X6_init_B52 fu a0 x1  z
        ) else (
          (ho_gr 6 a0 0 z).bind fun r27 =>
          (ho_nw (4 + 3) z).bind fun ⟨r28, z⟩ =>
          (f_X4_init fu r28 z).bind fun z =>
          (ho_sr 4 r27 v24 r28 z).bind fun z =>
          (ho_id (v24 + 1)).bind fun v29 =>
          (ho_gr 6 a0 0 z).bind fun r30 =>
          (ho_ln (4 + 53) r30 z).bind fun v31 =>
          if v31 ≤ v29 then (
            f_X6_init_B52 fu a0 x1  z
          ) else (
            (ho_gr 6 a0 0 z).bind fun r32 =>
            (ho_nw (4 + 3) z).bind fun ⟨r33, z⟩ =>
            (f_X4_init fu r33 z).bind fun z =>
            (ho_sr 4 r32 v29 r33 z).bind fun z =>
            (ho_id (v29 + 1)).bind fun v34 =>
            (ho_gr 6 a0 0 z).bind fun r35 =>
            (ho_ln (4 + 53) r35 z).bind fun v36 =>
            if v36 ≤ v34 then (
              f_X6_init_B52 fu a0 x1  z
            ) else (
              (ho_gr 6 a0 0 z).bind fun r37 =>
              (ho_nw (4 + 3) z).bind fun ⟨r38, z⟩ =>
              (f_X4_init fu r38 z).bind fun z =>
              (ho_sr 4 r37 v34 r38 z).bind fun z =>
              (ho_id (v34 + 1)).bind fun v39 =>
              none
            )
          )
        )
      )
    )
  )
set_option maxHeartbeats 4000000 in
set_option maxRecDepth 100000 in
theorem c_X6_init (l : Launch) (G : hp_G) (fu : Nat) (a0 : Nat) (x1 : Int32) (z zq : hp_S) (h : f_X6_init fu a0 x1 z = some zq) : hp_M l G yX6_init cX6_init 4 none 3 60 50 2509 [.ref a0, .int x1] z (hp_Qv G zq) := by
  refine hp_M.of (by decide) (Nat.le_of_ble_eq_true rfl) ?_
  intro p e s m below meth c X hr hlocks hnm hP hS ls hl
  have X : hp_C G cX6_init RX6 4 p s m c := X
  have hl : lv_has ls 4 [(0, .ref a0), (1, .int x1)] := hl
  have hx := X.1
  have hb := X.2.1
  have B52 : ∀ (z : hp_S) (H : Heap) (locs : List Loc) (ls : Array Slot), f_X6_init_B52 fu a0 x1 z = some zq → hp_P G z H → va_S (hp_A G) s.heap H locs → lv_has ls 4 [(0, .ref a0), (1, .int x1)] → W p l e (hp_rm 3 60 50 2509) s m [.ref a0, .int x1].toArray below meth c H locs 21 395 (MQ below (hp_Qv G zq) [.ref a0, .int x1].toArray s 50 2509 (hp_A G)) (F0 m 52 ls []) := by
    intro z H locs ls h hP hS hl
    unfold f_X6_init_B52 at h
    refine lv_aload_n hx hb dX6_init_52 rfl (lv_at hl 0 rfl) ?_
    obtain ⟨⟨r6, z⟩, q, h⟩ := ho_bd h
    refine hw_nw X hP hS LX5 ⟨m1_64, m1_65, m1_4⟩ (by decide) (Nat.le_of_ble_eq_true rfl) (Nat.le_of_ble_eq_true rfl) q dX6_init_53 (fun H hP hS => ?_)
    refine lv_dup hx hb dX6_init_56 rfl ?_
    obtain ⟨z, q, h⟩ := ho_bd h
    refine hw_cv hS (hp_runI (As := []) (rest := [.ref r6, .ref a0]) X hP hS hl.1 kX6_27 m1_67 rfl (c_X5_init l G fu r6 _ _ q) rfl (Nat.le_of_ble_eq_true rfl) ⟨⟨Nat.le_of_ble_eq_true rfl, Nat.le_of_ble_eq_true rfl⟩, Nat.le_of_ble_eq_true rfl, Nat.le_of_ble_eq_true rfl⟩ dX6_init_57) (fun H locs hP hS => ?_)
    obtain ⟨z, q, h⟩ := ho_bd h
    refine hw_prF X hP hS LX6 fX6_28 rfl rfl hnm rfl rfl rfl q dX6_init_60 (fun H locs hP hS => ?_)
    refine lv_aload_n hx hb dX6_init_63 rfl (lv_at hl 0 rfl) ?_
    obtain ⟨⟨r7, z⟩, q, h⟩ := ho_bd h
    refine hw_nw X hP hS LX1 ⟨m1_86, m1_87, m1_5⟩ (by decide) (Nat.le_of_ble_eq_true rfl) (Nat.le_of_ble_eq_true rfl) q dX6_init_64 (fun H hP hS => ?_)
    refine lv_dup hx hb dX6_init_67 rfl ?_
    refine lv_iconst (v := 4) hx hb dX6_init_68 (by decide) ?_
    obtain ⟨z, q, h⟩ := ho_bd h
    refine hw_cv hS (hp_runI (As := [.int 4]) (rest := [.ref r7, .ref a0]) X hP hS hl.1 kX6_34 m1_89 rfl (c_X1_init l G fu r7 4 _ _ q) rfl (Nat.le_of_ble_eq_true rfl) ⟨⟨Nat.le_of_ble_eq_true rfl, Nat.le_of_ble_eq_true rfl⟩, Nat.le_of_ble_eq_true rfl, Nat.le_of_ble_eq_true rfl⟩ dX6_init_69) (fun H locs hP hS => ?_)
    obtain ⟨z, q, h⟩ := ho_bd h
    refine hw_prF X hP hS LX6 fX6_37 rfl rfl hnm rfl rfl rfl q dX6_init_72 (fun H locs hP hS => ?_)
    refine lv_aload_n hx hb dX6_init_75 rfl (lv_at hl 0 rfl) ?_
    obtain ⟨⟨r8, z⟩, q, h⟩ := ho_bd h
    refine hw_nw X hP hS LX1 ⟨m1_86, m1_87, m1_5⟩ (by decide) (Nat.le_of_ble_eq_true rfl) (Nat.le_of_ble_eq_true rfl) q dX6_init_76 (fun H hP hS => ?_)
    refine lv_dup hx hb dX6_init_79 rfl ?_
    refine lv_bipush (v := 20) hx hb dX6_init_80 (by decide) ?_
    obtain ⟨z, q, h⟩ := ho_bd h
    refine hw_cv hS (hp_runI (As := [.int 20]) (rest := [.ref r8, .ref a0]) X hP hS hl.1 kX6_34 m1_89 rfl (c_X1_init l G fu r8 20 _ _ q) rfl (Nat.le_of_ble_eq_true rfl) ⟨⟨Nat.le_of_ble_eq_true rfl, Nat.le_of_ble_eq_true rfl⟩, Nat.le_of_ble_eq_true rfl, Nat.le_of_ble_eq_true rfl⟩ dX6_init_82) (fun H locs hP hS => ?_)
    obtain ⟨z, q, h⟩ := ho_bd h
    refine hw_prF X hP hS LX6 fX6_41 rfl rfl hnm rfl rfl rfl q dX6_init_85 (fun H locs hP hS => ?_)
    refine lv_aload_n hx hb dX6_init_88 rfl (lv_at hl 0 rfl) ?_
    obtain ⟨⟨r9, z⟩, q, h⟩ := ho_bd h
    refine hw_nw X hP hS LX3 ⟨m1_106, m1_107, m1_6⟩ (by decide) (Nat.le_of_ble_eq_true rfl) (Nat.le_of_ble_eq_true rfl) q dX6_init_89 (fun H hP hS => ?_)
    refine lv_dup hx hb dX6_init_92 rfl ?_
    obtain ⟨z, q, h⟩ := ho_bd h
    refine hw_cv hS (hp_runI (As := []) (rest := [.ref r9, .ref a0]) X hP hS hl.1 kX6_46 m1_109 rfl (c_X3_init l G fu r9 _ _ q) rfl (Nat.le_of_ble_eq_true rfl) ⟨⟨Nat.le_of_ble_eq_true rfl, Nat.le_of_ble_eq_true rfl⟩, Nat.le_of_ble_eq_true rfl, Nat.le_of_ble_eq_true rfl⟩ dX6_init_93) (fun H locs hP hS => ?_)
    obtain ⟨z, q, h⟩ := ho_bd h
    refine hw_prF X hP hS LX6 fX6_47 rfl rfl hnm rfl rfl rfl q dX6_init_96 (fun H locs hP hS => ?_)
    refine lv_aload_n hx hb dX6_init_99 rfl (lv_at hl 0 rfl) ?_
    obtain ⟨⟨r10, z⟩, q, h⟩ := ho_bd h
    refine hw_nw X hP hS LX0 ⟨m1_192, m1_141, m1_8⟩ (by decide) (Nat.le_of_ble_eq_true rfl) (Nat.le_of_ble_eq_true rfl) q dX6_init_100 (fun H hP hS => ?_)
    refine lv_dup hx hb dX6_init_103 rfl ?_
    obtain ⟨z, q, h⟩ := ho_bd h
    refine hw_cv hS (hp_runI (As := []) (rest := [.ref r10, .ref a0]) X hP hS hl.1 kX6_53 m1_143 rfl (c_X0_init l G fu r10 _ _ q) rfl (Nat.le_of_ble_eq_true rfl) ⟨⟨Nat.le_of_ble_eq_true rfl, Nat.le_of_ble_eq_true rfl⟩, Nat.le_of_ble_eq_true rfl, Nat.le_of_ble_eq_true rfl⟩ dX6_init_104) (fun H locs hP hS => ?_)
    obtain ⟨z, q, h⟩ := ho_bd h
    refine hw_prF X hP hS LX6 fX6_54 rfl rfl hnm rfl rfl rfl q dX6_init_107 (fun H locs hP hS => ?_)
    refine lv_aload_n hx hb dX6_init_110 rfl (lv_at hl 0 rfl) ?_
    refine hw_gs (q := h_q0) X hS h_s0 m1_194 dX6_init_111 ?_
    refine lv_iconst (v := 0) hx hb dX6_init_114 (by decide) ?_
    obtain ⟨v11, q, h⟩ := ho_bd h
    refine hw_tl (q := h_q0) X hS h_s0 q dX6_init_115 ?_
    obtain ⟨z, q, h⟩ := ho_bd h
    refine hw_pi X hP hS LX6 fX6_62 rfl rfl rfl q dX6_init_116 (fun H locs hP hS => ?_)
    refine W.widen (k := 50) (n := 2509) (Nat.le_of_ble_eq_true rfl) (Nat.le_of_ble_eq_true rfl) ?_
    exact hw_vret X hP hS hr hlocks h dX6_init_119
  unfold f_X6_init at h
  refine lv_aload_n hx hb dX6_init_0 rfl (lv_at hl 0 rfl) ?_
  refine W.objInit hx hb X.2.2.1 (hp_use X.2.2.2.2.1 m1_18 _) (hp_use X.2.2.2.2.1 m1_19 _) (hp_use X.2.2.2.2.1 m1_20 _) rfl (by rw [X.2.2.2.1]; exact hl.1) rfl dX6_init_1 (Nat.le_of_ble_eq_true rfl) (Nat.le_of_ble_eq_true rfl) ?_
  refine W.eq (g2 := F0 m 4 ls []) rfl ?_
  refine lv_iconst (v := 2) hx hb dX6_init_4 (by decide) ?_
  refine lv_iconst (v := 5) hx hb dX6_init_5 (by decide) ?_
  refine lv_iload_n hx hb dX6_init_6 rfl (lv_at hl 1 rfl) ?_
  refine va_mmin hx hb (X.2.2.2.1.trans hl.1.symm) X.2.2.1 (hp_use X.2.2.2.2.1 m1_21 _) (hp_use X.2.2.2.2.1 m1_22 _) (hp_use X.2.2.2.2.1 m1_2 _) (hp_use X.2.2.2.2.1 m1_23 _) (Nat.le_of_ble_eq_true rfl) (Nat.le_of_ble_eq_true rfl) (Nat.zero_le _) (Nat.zero_le _) dX6_init_7 ?_
  obtain ⟨v1, q, h⟩ := ho_bd h
  refine hw_id q ?_
  refine va_mmax hx hb (X.2.2.2.1.trans hl.1.symm) X.2.2.1 (hp_use X.2.2.2.2.1 m1_24 _) (hp_use X.2.2.2.2.1 m1_25 _) (hp_use X.2.2.2.2.1 m1_2 _) (hp_use X.2.2.2.2.1 m1_26 _) (Nat.le_of_ble_eq_true rfl) (Nat.le_of_ble_eq_true rfl) (Nat.zero_le _) (Nat.zero_le _) dX6_init_10 ?_
  obtain ⟨v2, q, h⟩ := ho_bd h
  refine hw_id q ?_
  refine lv_istore_n (lv' := [(2, .int v2), (0, .ref a0), (1, .int x1)]) hx hb dX6_init_13 rfl hl (by decide) rfl (fun ls hl => ?_)
  refine lv_aload_n hx hb dX6_init_14 rfl (lv_at hl 1 rfl) ?_
  refine lv_iload_n hx hb dX6_init_15 rfl (lv_at hl 0 rfl) ?_
  obtain ⟨⟨r3, z⟩, q, h⟩ := ho_bd h
  refine hw_nA (t0 := 2) X hP hS rfl ⟨m1_27, m1_28⟩ (by decide) (Nat.le_of_ble_eq_true rfl) (Nat.le_of_ble_eq_true rfl) q dX6_init_16 (fun H hP hS => ?_)
  obtain ⟨z, q, h⟩ := ho_bd h
  refine hw_prF X hP hS LX6 fX6_20 rfl rfl hnm rfl rfl rfl q dX6_init_19 (fun H locs hP hS => ?_)
  refine lv_iconst (v := 0) hx hb dX6_init_22 (by decide) ?_
  refine lv_istore_n (lv' := [(3, .int 0), (2, .int v2), (0, .ref a0), (1, .int x1)]) hx hb dX6_init_23 rfl hl (by decide) rfl (fun ls hl => ?_)
  refine lv_iload_n hx hb dX6_init_24 rfl (lv_at hl 0 rfl) ?_
  refine lv_aload_n hx hb dX6_init_25 rfl (lv_at hl 2 rfl) ?_
  obtain ⟨r4, q, h⟩ := ho_bd h
  refine hw_gr X hP LX6 fX6_20 rfl q dX6_init_26 ?_
  obtain ⟨v5, q, h⟩ := ho_bd h
  refine hw_lnr (t0 := 2) X hP rfl q dX6_init_29 ?_
  refine lv_icmp_ge (tgt := 52) hx hb dX6_init_30 (by decide) (fun hc => ?_) (fun hc => ?_)
  · replace h := ho_ip hc h
    refine W.widen (k := 21) (n := 395) (Nat.le_of_ble_eq_true rfl) (Nat.le_of_ble_eq_true rfl) ?_
    exact B52 z _ _ _ h hP hS (lv_sub hl [2, 3] rfl)
  · replace h := ho_in hc h
    refine lv_aload_n hx hb dX6_init_33 rfl (lv_at hl 2 rfl) ?_
    obtain ⟨r12, q, h⟩ := ho_bd h
    refine hw_gr X hP LX6 fX6_20 rfl q dX6_init_34 ?_
    refine lv_iload_n hx hb dX6_init_37 rfl (lv_at hl 0 rfl) ?_
    obtain ⟨⟨r13, z⟩, q, h⟩ := ho_bd h
    refine hw_nw X hP hS LX4 ⟨m1_27, m1_29, m1_3⟩ (by decide) (Nat.le_of_ble_eq_true rfl) (Nat.le_of_ble_eq_true rfl) q dX6_init_38 (fun H hP hS => ?_)
    refine lv_dup hx hb dX6_init_41 rfl ?_
    obtain ⟨z, q, h⟩ := ho_bd h
    refine hw_cv hS (hp_runI (As := []) (rest := [.ref r13, .int 0, .ref r12]) X hP hS hl.1 kX6_24 m1_31 rfl (c_X4_init l G fu r13 _ _ q) rfl (Nat.le_of_ble_eq_true rfl) ⟨⟨Nat.le_of_ble_eq_true rfl, Nat.le_of_ble_eq_true rfl⟩, Nat.le_of_ble_eq_true rfl, Nat.le_of_ble_eq_true rfl⟩ dX6_init_42) (fun H locs hP hS => ?_)
    obtain ⟨z, q, h⟩ := ho_bd h
    refine hw_sr (t0 := 2) X hP hS LX4 rfl q dX6_init_45 (fun H locs hP hS => ?_)
    obtain ⟨v14, q, h⟩ := ho_bd h
    refine lv_iinc (v := v14) (lv' := [(3, .int v14), (2, .int v2), (0, .ref a0), (1, .int x1)]) hx hb dX6_init_46 hl (k := 0) rfl (Option.some.inj q) (by decide) rfl (fun ls hl => ?_)
    refine lv_goto (tgt := 24) hx hb dX6_init_49 (by decide) ?_
    refine lv_iload_n hx hb dX6_init_24 rfl (lv_at hl 0 rfl) ?_
    refine lv_aload_n hx hb dX6_init_25 rfl (lv_at hl 2 rfl) ?_
    obtain ⟨r15, q, h⟩ := ho_bd h
    refine hw_gr X hP LX6 fX6_20 rfl q dX6_init_26 ?_
    obtain ⟨v16, q, h⟩ := ho_bd h
    refine hw_lnr (t0 := 2) X hP rfl q dX6_init_29 ?_
    refine lv_icmp_ge (tgt := 52) hx hb dX6_init_30 (by decide) (fun hc => ?_) (fun hc => ?_)
    · replace h := ho_ip hc h
      refine W.widen (k := 21) (n := 395) (Nat.le_of_ble_eq_true rfl) (Nat.le_of_ble_eq_true rfl) ?_
      exact B52 z _ _ _ h hP hS (lv_sub hl [2, 3] rfl)
    · replace h := ho_in hc h
      refine lv_aload_n hx hb dX6_init_33 rfl (lv_at hl 2 rfl) ?_
      obtain ⟨r17, q, h⟩ := ho_bd h
      refine hw_gr X hP LX6 fX6_20 rfl q dX6_init_34 ?_
      refine lv_iload_n hx hb dX6_init_37 rfl (lv_at hl 0 rfl) ?_
      obtain ⟨⟨r18, z⟩, q, h⟩ := ho_bd h
      refine hw_nw X hP hS LX4 ⟨m1_27, m1_29, m1_3⟩ (by decide) (Nat.le_of_ble_eq_true rfl) (Nat.le_of_ble_eq_true rfl) q dX6_init_38 (fun H hP hS => ?_)
      refine lv_dup hx hb dX6_init_41 rfl ?_
      obtain ⟨z, q, h⟩ := ho_bd h
      refine hw_cv hS (hp_runI (As := []) (rest := [.ref r18, .int v14, .ref r17]) X hP hS hl.1 kX6_24 m1_31 rfl (c_X4_init l G fu r18 _ _ q) rfl (Nat.le_of_ble_eq_true rfl) ⟨⟨Nat.le_of_ble_eq_true rfl, Nat.le_of_ble_eq_true rfl⟩, Nat.le_of_ble_eq_true rfl, Nat.le_of_ble_eq_true rfl⟩ dX6_init_42) (fun H locs hP hS => ?_)
      obtain ⟨z, q, h⟩ := ho_bd h
      refine hw_sr (t0 := 2) X hP hS LX4 rfl q dX6_init_45 (fun H locs hP hS => ?_)
      obtain ⟨v19, q, h⟩ := ho_bd h
      refine lv_iinc (v := v19) (lv' := [(3, .int v19), (2, .int v2), (0, .ref a0), (1, .int x1)]) hx hb dX6_init_46 hl (k := 0) rfl (Option.some.inj q) (by decide) rfl (fun ls hl => ?_)
      refine lv_goto (tgt := 24) hx hb dX6_init_49 (by decide) ?_
      refine lv_iload_n hx hb dX6_init_24 rfl (lv_at hl 0 rfl) ?_
      refine lv_aload_n hx hb dX6_init_25 rfl (lv_at hl 2 rfl) ?_
      obtain ⟨r20, q, h⟩ := ho_bd h
      refine hw_gr X hP LX6 fX6_20 rfl q dX6_init_26 ?_
      obtain ⟨v21, q, h⟩ := ho_bd h
      refine hw_lnr (t0 := 2) X hP rfl q dX6_init_29 ?_
      refine lv_icmp_ge (tgt := 52) hx hb dX6_init_30 (by decide) (fun hc => ?_) (fun hc => ?_)
      · replace h := ho_ip hc h
        refine W.widen (k := 21) (n := 395) (Nat.le_of_ble_eq_true rfl) (Nat.le_of_ble_eq_true rfl) ?_
        exact B52 z _ _ _ h hP hS (lv_sub hl [2, 3] rfl)
      · replace h := ho_in hc h
        refine lv_aload_n hx hb dX6_init_33 rfl (lv_at hl 2 rfl) ?_
        obtain ⟨r22, q, h⟩ := ho_bd h
        refine hw_gr X hP LX6 fX6_20 rfl q dX6_init_34 ?_
        refine lv_iload_n hx hb dX6_init_37 rfl (lv_at hl 0 rfl) ?_
        obtain ⟨⟨r23, z⟩, q, h⟩ := ho_bd h
        refine hw_nw X hP hS LX4 ⟨m1_27, m1_29, m1_3⟩ (by decide) (Nat.le_of_ble_eq_true rfl) (Nat.le_of_ble_eq_true rfl) q dX6_init_38 (fun H hP hS => ?_)
        refine lv_dup hx hb dX6_init_41 rfl ?_
        obtain ⟨z, q, h⟩ := ho_bd h
        refine hw_cv hS (hp_runI (As := []) (rest := [.ref r23, .int v19, .ref r22]) X hP hS hl.1 kX6_24 m1_31 rfl (c_X4_init l G fu r23 _ _ q) rfl (Nat.le_of_ble_eq_true rfl) ⟨⟨Nat.le_of_ble_eq_true rfl, Nat.le_of_ble_eq_true rfl⟩, Nat.le_of_ble_eq_true rfl, Nat.le_of_ble_eq_true rfl⟩ dX6_init_42) (fun H locs hP hS => ?_)
        obtain ⟨z, q, h⟩ := ho_bd h
        refine hw_sr (t0 := 2) X hP hS LX4 rfl q dX6_init_45 (fun H locs hP hS => ?_)
        obtain ⟨v24, q, h⟩ := ho_bd h
        refine lv_iinc (v := v24) (lv' := [(3, .int v24), (2, .int v2), (0, .ref a0), (1, .int x1)]) hx hb dX6_init_46 hl (k := 0) rfl (Option.some.inj q) (by decide) rfl (fun ls hl => ?_)
        refine lv_goto (tgt := 24) hx hb dX6_init_49 (by decide) ?_
        refine lv_iload_n hx hb dX6_init_24 rfl (lv_at hl 0 rfl) ?_
        refine lv_aload_n hx hb dX6_init_25 rfl (lv_at hl 2 rfl) ?_
        obtain ⟨r25, q, h⟩ := ho_bd h
        refine hw_gr X hP LX6 fX6_20 rfl q dX6_init_26 ?_
        obtain ⟨v26, q, h⟩ := ho_bd h
        refine hw_lnr (t0 := 2) X hP rfl q dX6_init_29 ?_
        refine lv_icmp_ge (tgt := 52) hx hb dX6_init_30 (by decide) (fun hc => ?_) (fun hc => ?_)
        · replace h := ho_ip hc h
          refine W.widen (k := 21) (n := 395) (Nat.le_of_ble_eq_true rfl) (Nat.le_of_ble_eq_true rfl) ?_
          exact B52 z _ _ _ h hP hS (lv_sub hl [2, 3] rfl)
        · replace h := ho_in hc h
          refine lv_aload_n hx hb dX6_init_33 rfl (lv_at hl 2 rfl) ?_
          obtain ⟨r27, q, h⟩ := ho_bd h
          refine hw_gr X hP LX6 fX6_20 rfl q dX6_init_34 ?_
          refine lv_iload_n hx hb dX6_init_37 rfl (lv_at hl 0 rfl) ?_
          obtain ⟨⟨r28, z⟩, q, h⟩ := ho_bd h
          refine hw_nw X hP hS LX4 ⟨m1_27, m1_29, m1_3⟩ (by decide) (Nat.le_of_ble_eq_true rfl) (Nat.le_of_ble_eq_true rfl) q dX6_init_38 (fun H hP hS => ?_)
          refine lv_dup hx hb dX6_init_41 rfl ?_
          obtain ⟨z, q, h⟩ := ho_bd h
          refine hw_cv hS (hp_runI (As := []) (rest := [.ref r28, .int v24, .ref r27]) X hP hS hl.1 kX6_24 m1_31 rfl (c_X4_init l G fu r28 _ _ q) rfl (Nat.le_of_ble_eq_true rfl) ⟨⟨Nat.le_of_ble_eq_true rfl, Nat.le_of_ble_eq_true rfl⟩, Nat.le_of_ble_eq_true rfl, Nat.le_of_ble_eq_true rfl⟩ dX6_init_42) (fun H locs hP hS => ?_)
          obtain ⟨z, q, h⟩ := ho_bd h
          refine hw_sr (t0 := 2) X hP hS LX4 rfl q dX6_init_45 (fun H locs hP hS => ?_)
          obtain ⟨v29, q, h⟩ := ho_bd h
          refine lv_iinc (v := v29) (lv' := [(3, .int v29), (2, .int v2), (0, .ref a0), (1, .int x1)]) hx hb dX6_init_46 hl (k := 0) rfl (Option.some.inj q) (by decide) rfl (fun ls hl => ?_)
          refine lv_goto (tgt := 24) hx hb dX6_init_49 (by decide) ?_
          refine lv_iload_n hx hb dX6_init_24 rfl (lv_at hl 0 rfl) ?_
          refine lv_aload_n hx hb dX6_init_25 rfl (lv_at hl 2 rfl) ?_
          obtain ⟨r30, q, h⟩ := ho_bd h
          refine hw_gr X hP LX6 fX6_20 rfl q dX6_init_26 ?_
          obtain ⟨v31, q, h⟩ := ho_bd h
          refine hw_lnr (t0 := 2) X hP rfl q dX6_init_29 ?_
          refine lv_icmp_ge (tgt := 52) hx hb dX6_init_30 (by decide) (fun hc => ?_) (fun hc => ?_)
          · replace h := ho_ip hc h
            refine W.widen (k := 21) (n := 395) (Nat.le_of_ble_eq_true rfl) (Nat.le_of_ble_eq_true rfl) ?_
            exact B52 z _ _ _ h hP hS (lv_sub hl [2, 3] rfl)
          · replace h := ho_in hc h
            refine lv_aload_n hx hb dX6_init_33 rfl (lv_at hl 2 rfl) ?_
            obtain ⟨r32, q, h⟩ := ho_bd h
            refine hw_gr X hP LX6 fX6_20 rfl q dX6_init_34 ?_
            refine lv_iload_n hx hb dX6_init_37 rfl (lv_at hl 0 rfl) ?_
            obtain ⟨⟨r33, z⟩, q, h⟩ := ho_bd h
            refine hw_nw X hP hS LX4 ⟨m1_27, m1_29, m1_3⟩ (by decide) (Nat.le_of_ble_eq_true rfl) (Nat.le_of_ble_eq_true rfl) q dX6_init_38 (fun H hP hS => ?_)
            refine lv_dup hx hb dX6_init_41 rfl ?_
            obtain ⟨z, q, h⟩ := ho_bd h
            refine hw_cv hS (hp_runI (As := []) (rest := [.ref r33, .int v29, .ref r32]) X hP hS hl.1 kX6_24 m1_31 rfl (c_X4_init l G fu r33 _ _ q) rfl (Nat.le_of_ble_eq_true rfl) ⟨⟨Nat.le_of_ble_eq_true rfl, Nat.le_of_ble_eq_true rfl⟩, Nat.le_of_ble_eq_true rfl, Nat.le_of_ble_eq_true rfl⟩ dX6_init_42) (fun H locs hP hS => ?_)
            obtain ⟨z, q, h⟩ := ho_bd h
            refine hw_sr (t0 := 2) X hP hS LX4 rfl q dX6_init_45 (fun H locs hP hS => ?_)
            obtain ⟨v34, q, h⟩ := ho_bd h
            refine lv_iinc (v := v34) (lv' := [(3, .int v34), (2, .int v2), (0, .ref a0), (1, .int x1)]) hx hb dX6_init_46 hl (k := 0) rfl (Option.some.inj q) (by decide) rfl (fun ls hl => ?_)
            refine lv_goto (tgt := 24) hx hb dX6_init_49 (by decide) ?_
            refine lv_iload_n hx hb dX6_init_24 rfl (lv_at hl 0 rfl) ?_
            refine lv_aload_n hx hb dX6_init_25 rfl (lv_at hl 2 rfl) ?_
            obtain ⟨r35, q, h⟩ := ho_bd h
            refine hw_gr X hP LX6 fX6_20 rfl q dX6_init_26 ?_
            obtain ⟨v36, q, h⟩ := ho_bd h
            refine hw_lnr (t0 := 2) X hP rfl q dX6_init_29 ?_
            refine lv_icmp_ge (tgt := 52) hx hb dX6_init_30 (by decide) (fun hc => ?_) (fun hc => ?_)
            · replace h := ho_ip hc h
              refine W.widen (k := 21) (n := 395) (Nat.le_of_ble_eq_true rfl) (Nat.le_of_ble_eq_true rfl) ?_
              exact B52 z _ _ _ h hP hS (lv_sub hl [2, 3] rfl)
            · replace h := ho_in hc h
              refine lv_aload_n hx hb dX6_init_33 rfl (lv_at hl 2 rfl) ?_
              obtain ⟨r37, q, h⟩ := ho_bd h
              refine hw_gr X hP LX6 fX6_20 rfl q dX6_init_34 ?_
              refine lv_iload_n hx hb dX6_init_37 rfl (lv_at hl 0 rfl) ?_
              obtain ⟨⟨r38, z⟩, q, h⟩ := ho_bd h
              refine hw_nw X hP hS LX4 ⟨m1_27, m1_29, m1_3⟩ (by decide) (Nat.le_of_ble_eq_true rfl) (Nat.le_of_ble_eq_true rfl) q dX6_init_38 (fun H hP hS => ?_)
              refine lv_dup hx hb dX6_init_41 rfl ?_
              obtain ⟨z, q, h⟩ := ho_bd h
              refine hw_cv hS (hp_runI (As := []) (rest := [.ref r38, .int v34, .ref r37]) X hP hS hl.1 kX6_24 m1_31 rfl (c_X4_init l G fu r38 _ _ q) rfl (Nat.le_of_ble_eq_true rfl) ⟨⟨Nat.le_of_ble_eq_true rfl, Nat.le_of_ble_eq_true rfl⟩, Nat.le_of_ble_eq_true rfl, Nat.le_of_ble_eq_true rfl⟩ dX6_init_42) (fun H locs hP hS => ?_)
              obtain ⟨z, q, h⟩ := ho_bd h
              refine hw_sr (t0 := 2) X hP hS LX4 rfl q dX6_init_45 (fun H locs hP hS => ?_)
              obtain ⟨v39, q, h⟩ := ho_bd h
              refine lv_iinc (v := v39) (lv' := [(3, .int v39), (2, .int v2), (0, .ref a0), (1, .int x1)]) hx hb dX6_init_46 hl (k := 0) rfl (Option.some.inj q) (by decide) rfl (fun ls hl => ?_)
              refine lv_goto (tgt := 24) hx hb dX6_init_49 (by decide) ?_
              exact nomatch h
