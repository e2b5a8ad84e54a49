/-- the law begins in no world of ours -/
def lx_z0 (N : Nat) : hp_S := (fun _ => (0, 0), fun _ _ => 0, fun _ _ => none, N)
set_option maxHeartbeats 8000000 in
set_option maxRecDepth 100000 in
theorem lx_world {s : State} {b : Nat} (hts : ∀ w ∈ lw_tbl, w.before #[Value.ref b] s = true) (hgv : (Jvm.Cond.and given_1 narrow_1).before #[Value.ref b] s = true) : ∃ G : hp_G, G.2.2.1 = s.heap.size ∧ hp_wd s ∧ va_K G.1 h_cl (h_tys G.2.1) s ∧ hp_T G s s.heap := by
  have hwd : hp_wd s := fun w hw => hp_word (h_tb_ok w hw) (State.WarmedH.refl s) (hts w (List.mem_filter.mp hw).1)
  obtain ⟨c0, i0, k0⟩ := u_known (C := RX0) (T := TX0) (N := 4) (n := 4) hwd inX0 (hwd _ m1_141)
  obtain ⟨c1, i1, k1⟩ := u_known (C := RX1) (T := TX1) (N := 3) (n := 3) hwd inX1 (hwd _ m1_87)
  obtain ⟨c2, i2, k2⟩ := u_known (C := RX2) (T := TX2) (N := 6) (n := 6) hwd inX2 (hwd _ m1_113)
  obtain ⟨c3, i3, k3⟩ := u_known (C := RX3) (T := TX3) (N := 8) (n := 8) hwd inX3 (hwd _ m1_107)
  obtain ⟨c4, i4, k4⟩ := u_known (C := RX4) (T := TX4) (N := 6) (n := 6) hwd inX4 (hwd _ m1_29)
  obtain ⟨c5, i5, k5⟩ := u_known (C := RX5) (T := TX5) (N := 3) (n := 3) hwd inX5 (hwd _ m1_65)
  obtain ⟨c6, i6, k6⟩ := u_known (C := RX6) (T := TX6) (N := 9) (n := 9) hwd inX6 (hwd _ m1_14)
  obtain ⟨c7, i7, k7⟩ := u_known (C := RX7) (T := TX7) (N := 23) (n := 23) hwd inX7 (hwd _ m3_91)
  obtain ⟨dC, dI, hKc⟩ : ∃ (dC : Nat → ClassId) (dI : Nat → Nat → Nat), ∀ (k : Nat) (q : vw_C), h_cl[k]? = some q → u_Kn s q.1 q.2.1 q.2.2 (dC k) (dI k) := by
    refine ⟨fun k => match k with | 0 => c0 | 1 => c1 | 2 => c2 | 3 => c3 | 4 => c4 | 5 => c5 | 6 => c6 | _ => c7, fun k => match k with | 0 => i0 | 1 => i1 | 2 => i2 | 3 => i3 | 4 => i4 | 5 => i5 | 6 => i6 | _ => i7, ?_⟩
    intro k q hq
    match k, hq with
    | 0, hq => cases hq; exact k0
    | 1, hq => cases hq; exact k1
    | 2, hq => cases hq; exact k2
    | 3, hq => cases hq; exact k3
    | 4, hq => cases hq; exact k4
    | 5, hq => cases hq; exact k5
    | 6, hq => cases hq; exact k6
    | 7, hq => cases hq; exact k7
    | k + 8, hq => simp [h_cl] at hq
  obtain ⟨cI, kI, pI, a1, a2, a3⟩ := Cond.arrayClass_spec (type := .int) (hwd _ m1_63)
  obtain ⟨cZ, kZ, pZ, b1, b2, b3⟩ := Cond.arrayClass_spec (type := .boolean) (hwd _ m1_165)
  obtain ⟨pP, cP, kP, e1, e2, e3, e4, e5⟩ := Cond.arrayOver_spec (n := RX4) (hwd _ m1_28)
  have hs := flat_of_before _ hgv
  have hA : ∀ a : Nat, a < s.heap.size → ¬ s.heap.size ≤ a := fun a h => Nat.not_le.mpr h
  have l0 : (Cond.laysStatic "LeadFaults" "STYLE_RULES" "[I").before #[Value.ref b] s = true := hts _ (List.mem_append_right _ (List.mem_append_left _ (List.mem_of_getElem? (i := 195) rfl)))
  obtain ⟨t0, v0, T0⟩ := va_Tof (tm := (Term.static "LeadFaults" "STYLE_RULES" "[I")) (ty := .int) (N := 5) (f := fun j => .int (h_t0.getD j 0)) (A := fun q => s.heap.size ≤ q) (by decide) (hs (.arrayOf (Term.static "LeadFaults" "STYLE_RULES" "[I") .int) (by decide +kernel)) (va_eqt (hs (.eq (.length (Term.static "LeadFaults" "STYLE_RULES" "[I")) (.int 5)) (by decide +kernel))) (fun j hj => by
    match j, hj with
    | 0, _ => exact va_eqt (hs (.eq (.elem (Term.static "LeadFaults" "STYLE_RULES" "[I") (.int 0)) (.int 16383)) (by decide +kernel))
    | 1, _ => exact va_eqt (hs (.eq (.elem (Term.static "LeadFaults" "STYLE_RULES" "[I") (.int 1)) (.int 4077)) (by decide +kernel))
    | 2, _ => exact va_eqt (hs (.eq (.elem (Term.static "LeadFaults" "STYLE_RULES" "[I") (.int 2)) (.int 781)) (by decide +kernel))
    | 3, _ => exact va_eqt (hs (.eq (.elem (Term.static "LeadFaults" "STYLE_RULES" "[I") (.int 3)) (.int 1)) (by decide +kernel))
    | 4, _ => exact va_eqt (hs (.eq (.elem (Term.static "LeadFaults" "STYLE_RULES" "[I") (.int 4)) (.int 0)) (by decide +kernel))
    | j + 5, hj => exact absurd hj (by omega)) hA
  have l1 : (Cond.laysStatic "LeadFaults" "LETTER_HEIGHTS" "[I").before #[Value.ref b] s = true := hts _ (List.mem_append_right _ (List.mem_append_right _ (List.mem_append_left _ (List.mem_of_getElem? (i := 99) rfl))))
  obtain ⟨t1, v1, T1⟩ := va_Tof (tm := (Term.static "LeadFaults" "LETTER_HEIGHTS" "[I")) (ty := .int) (N := 7) (f := fun j => .int (h_t1.getD j 0)) (A := fun q => s.heap.size ≤ q) (by decide) (hs (.arrayOf (Term.static "LeadFaults" "LETTER_HEIGHTS" "[I") .int) (by decide +kernel)) (va_eqt (hs (.eq (.length (Term.static "LeadFaults" "LETTER_HEIGHTS" "[I")) (.int 7)) (by decide +kernel))) (fun j hj => by
    match j, hj with
    | 0, _ => exact va_eqt (hs (.eq (.elem (Term.static "LeadFaults" "LETTER_HEIGHTS" "[I") (.int 0)) (.int 0)) (by decide +kernel))
    | 1, _ => exact va_eqt (hs (.eq (.elem (Term.static "LeadFaults" "LETTER_HEIGHTS" "[I") (.int 1)) (.int 2)) (by decide +kernel))
    | 2, _ => exact va_eqt (hs (.eq (.elem (Term.static "LeadFaults" "LETTER_HEIGHTS" "[I") (.int 2)) (.int 4)) (by decide +kernel))
    | 3, _ => exact va_eqt (hs (.eq (.elem (Term.static "LeadFaults" "LETTER_HEIGHTS" "[I") (.int 3)) (.int 5)) (by decide +kernel))
    | 4, _ => exact va_eqt (hs (.eq (.elem (Term.static "LeadFaults" "LETTER_HEIGHTS" "[I") (.int 4)) (.int 7)) (by decide +kernel))
    | 5, _ => exact va_eqt (hs (.eq (.elem (Term.static "LeadFaults" "LETTER_HEIGHTS" "[I") (.int 5)) (.int 9)) (by decide +kernel))
    | 6, _ => exact va_eqt (hs (.eq (.elem (Term.static "LeadFaults" "LETTER_HEIGHTS" "[I") (.int 6)) (.int 11)) (by decide +kernel))
    | j + 7, hj => exact absurd hj (by omega)) hA
  have l2 : (Cond.laysStatic "LeadFaults" "SHARPENED_LETTERS" "[I").before #[Value.ref b] s = true := hts _ (List.mem_append_right _ (List.mem_append_right _ (List.mem_append_left _ (List.mem_of_getElem? (i := 139) rfl))))
  obtain ⟨t2, v2, T2⟩ := va_Tof (tm := (Term.static "LeadFaults" "SHARPENED_LETTERS" "[I")) (ty := .int) (N := 7) (f := fun j => .int (h_t2.getD j 0)) (A := fun q => s.heap.size ≤ q) (by decide) (hs (.arrayOf (Term.static "LeadFaults" "SHARPENED_LETTERS" "[I") .int) (by decide +kernel)) (va_eqt (hs (.eq (.length (Term.static "LeadFaults" "SHARPENED_LETTERS" "[I")) (.int 7)) (by decide +kernel))) (fun j hj => by
    match j, hj with
    | 0, _ => exact va_eqt (hs (.eq (.elem (Term.static "LeadFaults" "SHARPENED_LETTERS" "[I") (.int 0)) (.int 3)) (by decide +kernel))
    | 1, _ => exact va_eqt (hs (.eq (.elem (Term.static "LeadFaults" "SHARPENED_LETTERS" "[I") (.int 1)) (.int 0)) (by decide +kernel))
    | 2, _ => exact va_eqt (hs (.eq (.elem (Term.static "LeadFaults" "SHARPENED_LETTERS" "[I") (.int 2)) (.int 4)) (by decide +kernel))
    | 3, _ => exact va_eqt (hs (.eq (.elem (Term.static "LeadFaults" "SHARPENED_LETTERS" "[I") (.int 3)) (.int 1)) (by decide +kernel))
    | 4, _ => exact va_eqt (hs (.eq (.elem (Term.static "LeadFaults" "SHARPENED_LETTERS" "[I") (.int 4)) (.int 5)) (by decide +kernel))
    | 5, _ => exact va_eqt (hs (.eq (.elem (Term.static "LeadFaults" "SHARPENED_LETTERS" "[I") (.int 5)) (.int 2)) (by decide +kernel))
    | 6, _ => exact va_eqt (hs (.eq (.elem (Term.static "LeadFaults" "SHARPENED_LETTERS" "[I") (.int 6)) (.int 6)) (by decide +kernel))
    | j + 7, hj => exact absurd hj (by omega)) hA
  have l3 : (Cond.laysStatic "LeadFaults" "FLATTENED_LETTERS" "[I").before #[Value.ref b] s = true := hts _ (List.mem_append_right _ (List.mem_append_right _ (List.mem_append_left _ (List.mem_of_getElem? (i := 141) rfl))))
  obtain ⟨t3, v3, T3⟩ := va_Tof (tm := (Term.static "LeadFaults" "FLATTENED_LETTERS" "[I")) (ty := .int) (N := 7) (f := fun j => .int (h_t3.getD j 0)) (A := fun q => s.heap.size ≤ q) (by decide) (hs (.arrayOf (Term.static "LeadFaults" "FLATTENED_LETTERS" "[I") .int) (by decide +kernel)) (va_eqt (hs (.eq (.length (Term.static "LeadFaults" "FLATTENED_LETTERS" "[I")) (.int 7)) (by decide +kernel))) (fun j hj => by
    match j, hj with
    | 0, _ => exact va_eqt (hs (.eq (.elem (Term.static "LeadFaults" "FLATTENED_LETTERS" "[I") (.int 0)) (.int 6)) (by decide +kernel))
    | 1, _ => exact va_eqt (hs (.eq (.elem (Term.static "LeadFaults" "FLATTENED_LETTERS" "[I") (.int 1)) (.int 2)) (by decide +kernel))
    | 2, _ => exact va_eqt (hs (.eq (.elem (Term.static "LeadFaults" "FLATTENED_LETTERS" "[I") (.int 2)) (.int 5)) (by decide +kernel))
    | 3, _ => exact va_eqt (hs (.eq (.elem (Term.static "LeadFaults" "FLATTENED_LETTERS" "[I") (.int 3)) (.int 1)) (by decide +kernel))
    | 4, _ => exact va_eqt (hs (.eq (.elem (Term.static "LeadFaults" "FLATTENED_LETTERS" "[I") (.int 4)) (.int 4)) (by decide +kernel))
    | 5, _ => exact va_eqt (hs (.eq (.elem (Term.static "LeadFaults" "FLATTENED_LETTERS" "[I") (.int 5)) (.int 0)) (by decide +kernel))
    | 6, _ => exact va_eqt (hs (.eq (.elem (Term.static "LeadFaults" "FLATTENED_LETTERS" "[I") (.int 6)) (.int 3)) (by decide +kernel))
    | j + 7, hj => exact absurd hj (by omega)) hA
  have l4 : (Cond.laysStatic "LeadFaults" "LEAST_HEIGHT_OF_STEPS" "[I").before #[Value.ref b] s = true := hts _ (List.mem_append_right _ (List.mem_append_right _ (List.mem_append_left _ (List.mem_of_getElem? (i := 225) rfl))))
  obtain ⟨t4, v4, T4⟩ := va_Tof (tm := (Term.static "LeadFaults" "LEAST_HEIGHT_OF_STEPS" "[I")) (ty := .int) (N := 7) (f := fun j => .int (h_t4.getD j 0)) (A := fun q => s.heap.size ≤ q) (by decide) (hs (.arrayOf (Term.static "LeadFaults" "LEAST_HEIGHT_OF_STEPS" "[I") .int) (by decide +kernel)) (va_eqt (hs (.eq (.length (Term.static "LeadFaults" "LEAST_HEIGHT_OF_STEPS" "[I")) (.int 7)) (by decide +kernel))) (fun j hj => by
    match j, hj with
    | 0, _ => exact va_eqt (hs (.eq (.elem (Term.static "LeadFaults" "LEAST_HEIGHT_OF_STEPS" "[I") (.int 0)) (.int 0)) (by decide +kernel))
    | 1, _ => exact va_eqt (hs (.eq (.elem (Term.static "LeadFaults" "LEAST_HEIGHT_OF_STEPS" "[I") (.int 1)) (.int 1)) (by decide +kernel))
    | 2, _ => exact va_eqt (hs (.eq (.elem (Term.static "LeadFaults" "LEAST_HEIGHT_OF_STEPS" "[I") (.int 2)) (.int 3)) (by decide +kernel))
    | 3, _ => exact va_eqt (hs (.eq (.elem (Term.static "LeadFaults" "LEAST_HEIGHT_OF_STEPS" "[I") (.int 3)) (.int 5)) (by decide +kernel))
    | 4, _ => exact va_eqt (hs (.eq (.elem (Term.static "LeadFaults" "LEAST_HEIGHT_OF_STEPS" "[I") (.int 4)) (.int 7)) (by decide +kernel))
    | 5, _ => exact va_eqt (hs (.eq (.elem (Term.static "LeadFaults" "LEAST_HEIGHT_OF_STEPS" "[I") (.int 5)) (.int 8)) (by decide +kernel))
    | 6, _ => exact va_eqt (hs (.eq (.elem (Term.static "LeadFaults" "LEAST_HEIGHT_OF_STEPS" "[I") (.int 6)) (.int 10)) (by decide +kernel))
    | j + 7, hj => exact absurd hj (by omega)) hA
  have l5 : (Cond.laysStatic "LeadFaults" "MOST_HEIGHT_OF_STEPS" "[I").before #[Value.ref b] s = true := hts _ (List.mem_append_right _ (List.mem_append_right _ (List.mem_append_left _ (List.mem_of_getElem? (i := 227) rfl))))
  obtain ⟨t5, v5, T5⟩ := va_Tof (tm := (Term.static "LeadFaults" "MOST_HEIGHT_OF_STEPS" "[I")) (ty := .int) (N := 7) (f := fun j => .int (h_t5.getD j 0)) (A := fun q => s.heap.size ≤ q) (by decide) (hs (.arrayOf (Term.static "LeadFaults" "MOST_HEIGHT_OF_STEPS" "[I") .int) (by decide +kernel)) (va_eqt (hs (.eq (.length (Term.static "LeadFaults" "MOST_HEIGHT_OF_STEPS" "[I")) (.int 7)) (by decide +kernel))) (fun j hj => by
    match j, hj with
    | 0, _ => exact va_eqt (hs (.eq (.elem (Term.static "LeadFaults" "MOST_HEIGHT_OF_STEPS" "[I") (.int 0)) (.int 0)) (by decide +kernel))
    | 1, _ => exact va_eqt (hs (.eq (.elem (Term.static "LeadFaults" "MOST_HEIGHT_OF_STEPS" "[I") (.int 1)) (.int 2)) (by decide +kernel))
    | 2, _ => exact va_eqt (hs (.eq (.elem (Term.static "LeadFaults" "MOST_HEIGHT_OF_STEPS" "[I") (.int 2)) (.int 4)) (by decide +kernel))
    | 3, _ => exact va_eqt (hs (.eq (.elem (Term.static "LeadFaults" "MOST_HEIGHT_OF_STEPS" "[I") (.int 3)) (.int 5)) (by decide +kernel))
    | 4, _ => exact va_eqt (hs (.eq (.elem (Term.static "LeadFaults" "MOST_HEIGHT_OF_STEPS" "[I") (.int 4)) (.int 7)) (by decide +kernel))
    | 5, _ => exact va_eqt (hs (.eq (.elem (Term.static "LeadFaults" "MOST_HEIGHT_OF_STEPS" "[I") (.int 5)) (.int 9)) (by decide +kernel))
    | 6, _ => exact va_eqt (hs (.eq (.elem (Term.static "LeadFaults" "MOST_HEIGHT_OF_STEPS" "[I") (.int 6)) (.int 11)) (by decide +kernel))
    | j + 7, hj => exact absurd hj (by omega)) hA
  have l6 : (Cond.laysStatic "LeadFaults" "QUALITY_BY_HEIGHT" "[I").before #[Value.ref b] s = true := hts _ (List.mem_append_right _ (List.mem_append_right _ (List.mem_append_right _ (List.mem_append_left _ (List.mem_of_getElem? (i := 11) rfl)))))
  obtain ⟨t6, v6, T6⟩ := va_Tof (tm := (Term.static "LeadFaults" "QUALITY_BY_HEIGHT" "[I")) (ty := .int) (N := 12) (f := fun j => .int (h_t6.getD j 0)) (A := fun q => s.heap.size ≤ q) (by decide) (hs (.arrayOf (Term.static "LeadFaults" "QUALITY_BY_HEIGHT" "[I") .int) (by decide +kernel)) (va_eqt (hs (.eq (.length (Term.static "LeadFaults" "QUALITY_BY_HEIGHT" "[I")) (.int 12)) (by decide +kernel))) (fun j hj => by
    match j, hj with
    | 0, _ => exact va_eqt (hs (.eq (.elem (Term.static "LeadFaults" "QUALITY_BY_HEIGHT" "[I") (.int 0)) (.int 0)) (by decide +kernel))
    | 1, _ => exact va_eqt (hs (.eq (.elem (Term.static "LeadFaults" "QUALITY_BY_HEIGHT" "[I") (.int 1)) (.int 3)) (by decide +kernel))
    | 2, _ => exact va_eqt (hs (.eq (.elem (Term.static "LeadFaults" "QUALITY_BY_HEIGHT" "[I") (.int 2)) (.int 3)) (by decide +kernel))
    | 3, _ => exact va_eqt (hs (.eq (.elem (Term.static "LeadFaults" "QUALITY_BY_HEIGHT" "[I") (.int 3)) (.int 0)) (by decide +kernel))
    | 4, _ => exact va_eqt (hs (.eq (.elem (Term.static "LeadFaults" "QUALITY_BY_HEIGHT" "[I") (.int 4)) (.int 0)) (by decide +kernel))
    | 5, _ => exact va_eqt (hs (.eq (.elem (Term.static "LeadFaults" "QUALITY_BY_HEIGHT" "[I") (.int 5)) (.int 0)) (by decide +kernel))
    | 6, _ => exact va_eqt (hs (.eq (.elem (Term.static "LeadFaults" "QUALITY_BY_HEIGHT" "[I") (.int 6)) (.int 3)) (by decide +kernel))
    | 7, _ => exact va_eqt (hs (.eq (.elem (Term.static "LeadFaults" "QUALITY_BY_HEIGHT" "[I") (.int 7)) (.int 0)) (by decide +kernel))
    | 8, _ => exact va_eqt (hs (.eq (.elem (Term.static "LeadFaults" "QUALITY_BY_HEIGHT" "[I") (.int 8)) (.int 0)) (by decide +kernel))
    | 9, _ => exact va_eqt (hs (.eq (.elem (Term.static "LeadFaults" "QUALITY_BY_HEIGHT" "[I") (.int 9)) (.int 0)) (by decide +kernel))
    | 10, _ => exact va_eqt (hs (.eq (.elem (Term.static "LeadFaults" "QUALITY_BY_HEIGHT" "[I") (.int 10)) (.int 3)) (by decide +kernel))
    | 11, _ => exact va_eqt (hs (.eq (.elem (Term.static "LeadFaults" "QUALITY_BY_HEIGHT" "[I") (.int 11)) (.int 3)) (by decide +kernel))
    | j + 12, hj => exact absurd hj (by omega)) hA
  have hini : (Cond.initialized "LeadFaults").before #[Value.ref b] s = true := hp_use hwd m1_1 _
  refine ⟨((dC, dI), fun k => if k = 1 then cI else if k = 2 then cZ else cP, s.heap.size, fun j => match j with | 0 => t0 | 1 => t1 | 2 => t2 | 3 => t3 | 4 => t4 | 5 => t5 | _ => t6), rfl, hwd, ⟨hKc, fun k q hk => ?_⟩, fun q hq => ?_⟩
  · match k, hk with
    | 0, hk => cases hk; exact ⟨fun n z => ⟨fun k h => (by cases h), kI, a2, pI, a3⟩, a1⟩
    | 1, hk => cases hk; exact ⟨fun n z => ⟨fun k h => (by cases h), kZ, b2, pZ, b3⟩, b1⟩
    | 2, hk => cases hk; exact ⟨fun n z => ⟨fun k h => (by cases h), kP, e3, pP, e4⟩, kP, pP, e3, e4, e1, e5⟩
    | k + 3, hk => simp [h_tys] at hk
  · simp only [h_st, List.mem_cons, List.not_mem_nil, or_false] at hq
    rcases hq with rfl | rfl | rfl | rfl | rfl | rfl | rfl
    · exact ⟨va_Zof l0 hini v0 hA, T0⟩
    · exact ⟨va_Zof l1 hini v1 hA, T1⟩
    · exact ⟨va_Zof l2 hini v2 hA, T2⟩
    · exact ⟨va_Zof l3 hini v3 hA, T3⟩
    · exact ⟨va_Zof l4 hini v4 hA, T4⟩
    · exact ⟨va_Zof l5 hini v5 hA, T5⟩
    · exact ⟨va_Zof l6 hini v6 hA, T6⟩
/-- what is wanting: the law over the functions answers 1 on every script -/
def lx_pure : Prop := ∀ (L N : Nat) (xs : Nat → Int32), L ≤ 2561 → ∃ (fu : Nat) (zq : hp_S), f_L_law fu L xs (lx_z0 N) = some (1, zq)
theorem lx_z0_P {G : hp_G} {H : Heap} (h : G.2.2.1 = H.size) : hp_P G (lx_z0 H.size) H := ⟨fun a x hx => by simp [hp_E, lx_z0] at hx, rfl, Nat.le_of_eq h⟩
def lw_P (b : Addr) (xs : List Int32) (args : Array Value) (s : State) : Prop := args = #[.ref b] ∧ s.IntsAt b xs ∧ xs.length ≤ 2561 ∧ (Jvm.Cond.and given_1 narrow_1).before args s = true
def lw_At (p : Program) (s : State) (m : MethodId) (meth : Method) (c : Code) (b L : Nat) (xs : Nat → Int32) : Prop :=
  p.tables.exec = Jvm.exec ∧ c.code = code ∧ meth.sig.returnType = ret ∧ c.maxLocals = 4 ∧ s.vm.findClass R_law = some m.cls ∧ (∀ w ∈ lw_tbl, w.before #[Value.ref b] s = true) ∧ va_X b L xs s s.heap ∧ b < s.heap.size ∧ meth.locks = false ∧ (Jvm.Cond.and given_1 narrow_1).before #[Value.ref b] s = true
set_option maxHeartbeats 4000000 in
set_option maxRecDepth 100000 in
theorem whole_start_open (hpure : lx_pure) {p : Program} {e : Env} {s : State} {m : MethodId} {below : List Frame} {meth : Method} {c : Code} (l : Launch) {b L : Nat} {xs : Nat → Int32} (hL : L ≤ 2561) (C0 : lw_At p s m meth c b L xs) : W p l e room_1 s m #[Value.ref b] below meth c s.heap [] 0 0 (lw_Z below #[Value.ref b] s) (entryFrame m ([Value.ref b] : List Value).toArray 4) := by
  obtain ⟨hx, hb, hr, hml, hown, hts, hX, hbl, hlocks, hgv⟩ := C0
  obtain ⟨G, hG, hwd, hK, hT⟩ := lx_world hts hgv
  obtain ⟨fu, zq, h⟩ := hpure L s.heap.size xs hL
  rw [lg_entry_eq]
  exact lx_law l fu (lx_z0 s.heap.size) zq (by omega) ⟨hx, hb, hown, hml, hwd, hK, hT⟩ hr hlocks hX hbl (by show ¬ G.2.2.1 ≤ b; omega) (Nat.le_of_eq hG.symm) h _ (lx_z0_P hG) (lv_entry [.ref b] (Nat.le_of_ble_eq_true rfl))
