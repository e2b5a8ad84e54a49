/-! THE LAW, over the heap of numbers; the script is no cell of it -/
def ho_xl (L : Nat) (xs : Nat → Int32) (i : Int32) : Option Int32 := if ¬ (i < 0 ∨ L ≤ i.toNatClampNeg) then some (xs i.toNatClampNeg) else none
def ho_xc (L : Nat) (xs : Nat → Int32) : Int32 := if Int32.ofNat L ≤ 0 then 0 else xs 0
def R_law : String := "LeadFaultsLaw"
def lw_Q (_ : Array Value) (s : State) (o : Outcome) (t : State) : Prop := o = .returned (some (.int 1)) ∧ Framed s o t [] 600000 7302250
def lw_Z (below : List Frame) (a : Array Value) (s : State) : State → Prop := fun t => ∃ o, t.status = .running ∧ Ended t below o ∧ lw_Q a s o t
/-- the law's own end, with 1 on the stack, nothing written that was there before, its room as the claim has it -/
theorem lw_ret {p : Program} {l : Launch} {e : Env} {s : State} {m : MethodId} {below : List Frame} {meth : Method} {c : Code} {b : Nat} (hx : p.tables.exec = Jvm.exec) (hb : c.code = code) (hr : meth.sig.returnType = ret) (hlocks : meth.locks = false) {pc : Nat} {H : Heap} {ls : Array Slot} (hdg : decode code pc = .ok (.ireturn, 1)) : W p l e room_1 s m #[Value.ref b] below meth c H [] 600000 7302250 (lw_Z below #[Value.ref b] s) (F0 m pc ls [.int 1]) := by
  intro T hT X
  obtain ⟨fs, hret, hrun, hended, hW, hframe⟩ := X.leave (v := some (.int 1)) (hlocks := hlocks) (fun h => by rw [hr] at h; cases h)
  have hmeth' : T.vm.method? m = some meth := X.method'
  refine ⟨T.setFrames fs, ?_, .returned (some (.int 1)), hrun, hended, rfl, ⟨_, rfl⟩, hW, hframe⟩
  jvm_step X.here [X.here.top, hx, hb, hdg, hmeth', hr, ret, narrow_b1]
  (try refine ⟨rfl, ?_⟩); (try refine ⟨rfl, ?_⟩)
  first | (intro acts; rw [hret _ acts rfl rfl rfl]) | rw [hret _ _ rfl rfl rfl]
  exact Steps.refl _
section LX
variable {p : Program} {l : Launch} {e : Env} {R : Room} {s : State} {m : MethodId} {args : Array Value} {below : List Frame} {meth : Method} {c : Code} {H : Heap} {locs : List Loc} {cells slots : Nat} {Q : State → Prop}
variable {cc : ByteArray} {pc : Nat} {ls : Array Slot} {rest : List Value} {G : hp_G} {z zq : hp_S} {b L : Nat} {xs : Nat → Int32}
theorem hw_xl (hx : p.tables.exec = Jvm.exec) (hb : c.code = cc) (hX : va_X b L xs s s.heap) (hbl : b < s.heap.size) (hbA : ¬ hp_A G b) (hS : va_S (hp_A G) s.heap H locs) {i v : Int32} (q : ho_xl L xs i = some v) (hdg : decode cc pc = .ok (.iaload, 1)) (kk : W p l e R s m args below meth c H locs cells slots Q (F0 m (pc + 1) ls (.int v :: rest))) : W p l e R s m args below meth c H locs cells slots Q (F0 m pc ls (.int i :: .ref b :: rest)) := by
  unfold ho_xl at q
  split at q
  · rename_i hs
    cases q
    exact va_sld hx hb hX hbl hbA hS hs hdg kk
  · cases q
theorem lx_ret (hx : p.tables.exec = Jvm.exec) (hb : c.code = code) (hr : meth.sig.returnType = ret) (hlocks : meth.locks = false) (hG : s.heap.size ≤ G.2.2.1) (hS : va_S (hp_A G) s.heap H locs) {v : Int32} (h : some (v, z) = some (1, zq)) (hc : cells ≤ 600000) (hsl : slots ≤ 7302250) (hdg : decode code pc = .ok (.ireturn, 1)) : W p l e room_1 s m #[Value.ref b] below meth c H locs cells slots (lw_Z below #[Value.ref b] s) (F0 m pc ls [.int v]) := by
  cases h
  refine va_forget (fun q hq => Nat.le_trans hG (hS.2.2 q hq)) ?_
  exact W.widen hc hsl (lw_ret hx hb hr hlocks hdg)
set_option maxHeartbeats 4000000 in
set_option maxRecDepth 100000 in
theorem c_L_cell (l : Launch) (G : hp_G) (b L : Nat) (xs : Nat → Int32) (z : hp_S) (hL : L < 2 ^ 31) : Met l yL_cell [.code yL_cell cL_cell 2 (some .int)] (hp_rm 0 0 0 0) (va_Pc [.ref b, .int 0] (fun U => hp_W G z U ∧ va_X b L xs U U.heap ∧ ¬ hp_A G b)) (hp_Qi G (ho_xc L xs) z) 0 0 (hp_A G) := by
  refine Met.ofW (cc := cL_cell) (maxL := 2) (ret := some .int) (by decide) rfl ?_
  intro p e s m args below meth c s₁ B hml hv
  obtain ⟨rfl, ⟨hwd, hK, hP, hT⟩, hX, hbA⟩ := hv
  have hbl : b < s.heap.size := by
    obtain ⟨scr, h1, -⟩ := hX
    exact (Array.getElem?_eq_some_iff.mp h1).1
  have X : hp_C G cL_cell RL 2 p s m c := ⟨B.exec, B.bytes, findClass_of_methodNamed B.named, hml, hwd, hK, hT⟩
  have hr := B.returns
  have hlocks := B.notSynchronized
  have hx := X.1
  have hb := X.2.1
  rw [lg_entry_eq]
  have hl := lv_entry ([.ref b, .int 0]) (n := 2) (Nat.le_of_ble_eq_true rfl)
  generalize (lg_sl ([.ref b, .int 0]) ++ List.replicate (2 - (lg_sl ([.ref b, .int 0])).length) Slot.unset).toArray = ls at hl ⊢
  have hl : lv_has ls 2 [(0, .ref b), (1, .int 0)] := hl
  have hS : va_S (hp_A G) s.heap s.heap [] := va_S.rf
  refine lv_iload_n hx hb dL_cell_0 rfl (lv_at hl 1 rfl) ?_
  refine lv_aload_n hx hb dL_cell_1 rfl (lv_at hl 0 rfl) ?_
  refine va_slen hx hb hX hbl hbA hS dL_cell_2 ?_
  refine lv_icmp_ge (tgt := 12) hx hb dL_cell_3 (by decide) (fun hc => ?_) (fun hc => ?_)
  · refine lv_iconst (v := 0) hx hb dL_cell_12 (by decide) ?_
    exact hw_iret X hP hS hr hlocks (by unfold ho_xc; rw [if_pos hc]) dL_cell_13
  · refine lv_aload_n hx hb dL_cell_6 rfl (lv_at hl 0 rfl) ?_
    refine lv_iload_n hx hb dL_cell_7 rfl (lv_at hl 1 rfl) ?_
    have h0 : 0 < L := by
      rcases Nat.eq_zero_or_pos L with q | q
      · exact absurd (by rw [q]; decide) hc
      · exact q
    refine va_sld hx hb hX hbl hbA hS (vp_in_nI (n := 0) h0 hL) dL_cell_8 ?_
    refine lv_goto (tgt := 13) hx hb dL_cell_9 (by decide) ?_
    exact hw_iret X hP hS hr hlocks (by unfold ho_xc; rw [if_neg hc]; rfl) dL_cell_13
theorem lx_cell (X : hp_C G cL_law RL 4 p s m c) (hP : hp_P G z H) (hS : va_S (hp_A G) s.heap H locs) (hls : ls.size = 4) (hL : L < 2 ^ 31) (hX : va_X b L xs s s.heap) (hbA : ¬ hp_A G b) (hrest : (rest.map fun v => v.category).sum ≤ 8) (hdg : decode cL_law pc = .ok (.invokestatic 9, 3)) (kk : ∀ (H1 : Heap) (locs1 : List Loc), hp_P G z H1 → va_S (hp_A G) s.heap H1 locs1 → W p l e room_1 s m args below meth c H1 locs1 cells slots Q (F0 m (pc + 3) ls (.int (ho_xc L xs) :: rest))) (hcs : cells ≤ 600000 ∧ slots ≤ 7302250 := by exact ⟨Nat.le_of_ble_eq_true rfl, Nat.le_of_ble_eq_true rfl⟩) : W p l e room_1 s m args below meth c H locs cells slots Q (F0 m pc ls (.int 0 :: .ref b :: rest)) := by
  obtain ⟨hx, hb, hown, hml, hwd, hK, hT⟩ := id X
  have hbl : b < s.heap.size := by
    obtain ⟨scr, h1, -⟩ := hX
    exact (Array.getElem?_eq_some_iff.mp h1).1
  have hts : ∀ w ∈ h_tb, w.before args s = true := fun w h => hp_use hwd h args
  have hpre : PreS s H (va_Pc [.ref b, .int 0] (fun U => hp_W G z U ∧ va_X b L xs U U.heap ∧ ¬ hp_A G b)) [.ref b, .int 0] := by
    refine ⟨fun a U g mk q => ?_, fun U hU hW => ⟨rfl, hp_W.at X hP hS hU hW, ?_, hbA⟩⟩
    · obtain ⟨q0, q1, q2, q3⟩ := q
      exact ⟨q0, (hp_blind (av := [.ref b, .int 0]) a U g mk ⟨q0, q1⟩).2, va_X.moved (u := U) (U := U.calling g mk a) (Vm.Alike.refl U.vm) q2, q3⟩
    · rw [hU]
      exact (hX.kept (hS.2.1 b hbl hbA)).moved hW.alike
  rcases kL_9.1.2.2 with hl | ⟨host, hl⟩
  · exact hw_ci hS (va_runS (As := [.ref b, .int 0]) (Ts := h_tb) (rest := rest) ⟨hx, hb, hml, hown, hts⟩ (c_L_cell l G b L xs z hL) ⟨hp_cB hwd kL_9 hl ⟨Nat.le_of_ble_eq_true rfl, Nat.le_of_ble_eq_true rfl⟩, hts _ m3_88⟩ hpre rfl rfl hls rfl (lv_room hrest) hdg hcs) kk
  · exact hw_ci hS (va_runSN (As := [.ref b, .int 0]) (Ts := h_tb) (rest := rest) ⟨hx, hb, hml, hown, hts⟩ (c_L_cell l G b L xs z hL) ⟨hp_cN hwd kL_9 hl ⟨Nat.le_of_ble_eq_true rfl, Nat.le_of_ble_eq_true rfl⟩, hts _ m3_88, trivial⟩ hpre rfl rfl hls rfl (lv_room hrest) hdg hcs) kk
end LX

def f_L_law_B695 (fu : Nat) (L : Nat) (xs : Nat → Int32) (z : hp_S) : Option (Int32 × hp_S) :=
  some (1, z)
def f_L_law_B689 (fu : Nat) (L : Nat) (xs : Nat → Int32) (ag : Nat → Nat → Int32 → hp_S → Option (Int32 × hp_S)) (kk : hp_S → Option (Int32 × hp_S)) (w1 : Nat) (w2 : Nat) (w3 : Int32) (z : hp_S) : Option (Int32 × hp_S) :=
  (ho_id (w3 + 5)).bind fun v9 =>
  ag w1 w2 v9 z
def f_L_law_L28 (fu : Nat) (L : Nat) (xs : Nat → Int32) (kk : hp_S → Option (Int32 × hp_S)) : Nat → Nat → Nat → Int32 → hp_S → Option (Int32 × hp_S)
  | 0, _, _, _, _ => none
  | n + 1, w1, w2, w3, z =>
    if ((Int32.ofNat L) - 5) < w3 then (
      kk  z
    ) else (
      (ho_xl L xs w3).bind fun v5 =>
      (ho_id (v5 &&& 31)).bind fun v6 =>
      if v6 = 0 then (
        (ho_is 6 w1 z).bind fun _ =>
        (f_X6_clear fu w1 z).bind fun ⟨v7, z⟩ =>
        (ho_is 7 w2 z).bind fun _ =>
        (f_X7_clear fu w2 z).bind fun ⟨v8, z⟩ =>
        if v7 = v8 then (
          f_L_law_B689 fu L xs (f_L_law_L28 fu L xs kk n) kk w1 w2 w3 z
        ) else (
          some (0, z)
        )
      ) else (
      if v6 = 1 then (
        (ho_xl L xs (w3 + 1)).bind fun v10 =>
        (ho_xl L xs (w3 + 2)).bind fun v11 =>
        (ho_xl L xs (w3 + 3)).bind fun v12 =>
        (ho_xl L xs (w3 + 4)).bind fun v13 =>
        (ho_is 6 w1 z).bind fun _ =>
        (f_X6_note fu w1 v10 v11 v12 v13 z).bind fun ⟨v14, z⟩ =>
        (ho_xl L xs (w3 + 1)).bind fun v15 =>
        (ho_xl L xs (w3 + 2)).bind fun v16 =>
        (ho_xl L xs (w3 + 3)).bind fun v17 =>
        (ho_xl L xs (w3 + 4)).bind fun v18 =>
        (ho_is 7 w2 z).bind fun _ =>
        (f_X7_note fu w2 v15 v16 v17 v18 z).bind fun ⟨v19, z⟩ =>
        if v14 = v19 then (
          f_L_law_B689 fu L xs (f_L_law_L28 fu L xs kk n) kk w1 w2 w3 z
        ) else (
          some (0, z)
        )
      ) else (
      if v6 = 2 then (
        (ho_xl L xs (w3 + 1)).bind fun v20 =>
        (ho_xl L xs (w3 + 2)).bind fun v21 =>
        (ho_is 6 w1 z).bind fun _ =>
        (f_X6_rest fu w1 v20 v21 z).bind fun ⟨v22, z⟩ =>
        (ho_xl L xs (w3 + 1)).bind fun v23 =>
        (ho_xl L xs (w3 + 2)).bind fun v24 =>
        (ho_is 7 w2 z).bind fun _ =>
        (f_X7_rest fu w2 v23 v24 z).bind fun ⟨v25, z⟩ =>
        if v22 = v25 then (
          f_L_law_B689 fu L xs (f_L_law_L28 fu L xs kk n) kk w1 w2 w3 z
        ) else (
          some (0, z)
        )
      ) else (
      if v6 = 3 then (
        (ho_xl L xs (w3 + 1)).bind fun v26 =>
        (ho_is 6 w1 z).bind fun _ =>
        (f_X6_take fu w1 v26 z).bind fun ⟨v27, z⟩ =>
        (ho_xl L xs (w3 + 1)).bind fun v28 =>
        (ho_is 7 w2 z).bind fun _ =>
        (f_X7_take fu w2 v28 z).bind fun ⟨v29, z⟩ =>
        if v27 = v29 then (
          f_L_law_B689 fu L xs (f_L_law_L28 fu L xs kk n) kk w1 w2 w3 z
        ) else (
          some (0, z)
        )
      ) else (
      if v6 = 4 then (
        (ho_xl L xs (w3 + 1)).bind fun v30 =>
        (ho_xl L xs (w3 + 2)).bind fun v31 =>
        (ho_is 6 w1 z).bind fun _ =>
        (f_X6_rule fu w1 v30 v31 z).bind fun ⟨v32, z⟩ =>
        (ho_xl L xs (w3 + 1)).bind fun v33 =>
        (ho_xl L xs (w3 + 2)).bind fun v34 =>
        (ho_is 7 w2 z).bind fun _ =>
        (f_X7_rule fu w2 v33 v34 z).bind fun ⟨v35, z⟩ =>
        if v32 = v35 then (
          f_L_law_B689 fu L xs (f_L_law_L28 fu L xs kk n) kk w1 w2 w3 z
        ) else (
          some (0, z)
        )
      ) else (
      if v6 = 5 then (
        (ho_xl L xs (w3 + 1)).bind fun v36 =>
        (ho_is 6 w1 z).bind fun _ =>
        (f_X6_style fu w1 v36 z).bind fun ⟨v37, z⟩ =>
        (ho_xl L xs (w3 + 1)).bind fun v38 =>
        (ho_is 7 w2 z).bind fun _ =>
        (f_X7_style fu w2 v38 z).bind fun ⟨v39, z⟩ =>
        if v37 = v39 then (
          f_L_law_B689 fu L xs (f_L_law_L28 fu L xs kk n) kk w1 w2 w3 z
        ) else (
          some (0, z)
        )
      ) else (
      if v6 = 6 then (
        (ho_xl L xs (w3 + 1)).bind fun v40 =>
        (ho_is 6 w1 z).bind fun _ =>
        (f_X6_key fu w1 v40 z).bind fun ⟨v41, z⟩ =>
        (ho_xl L xs (w3 + 1)).bind fun v42 =>
        (ho_is 7 w2 z).bind fun _ =>
        (f_X7_key fu w2 v42 z).bind fun ⟨v43, z⟩ =>
        if v41 = v43 then (
          f_L_law_B689 fu L xs (f_L_law_L28 fu L xs kk n) kk w1 w2 w3 z
        ) else (
          some (0, z)
        )
      ) else (
      if v6 = 7 then (
        (ho_xl L xs (w3 + 1)).bind fun v44 =>
        (ho_xl L xs (w3 + 2)).bind fun v45 =>
        (ho_xl L xs (w3 + 3)).bind fun v46 =>
        (ho_is 6 w1 z).bind fun _ =>
        (f_X6_range fu w1 v44 v45 v46 z).bind fun ⟨v47, z⟩ =>
        (ho_xl L xs (w3 + 1)).bind fun v48 =>
        (ho_xl L xs (w3 + 2)).bind fun v49 =>
        (ho_xl L xs (w3 + 3)).bind fun v50 =>
        (ho_is 7 w2 z).bind fun _ =>
        (f_X7_range fu w2 v48 v49 v50 z).bind fun ⟨v51, z⟩ =>
        if v47 = v51 then (
          f_L_law_B689 fu L xs (f_L_law_L28 fu L xs kk n) kk w1 w2 w3 z
        ) else (
          some (0, z)
        )
      ) else (
      if v6 = 8 then (
        (ho_xl L xs (w3 + 1)).bind fun v52 =>
        (ho_is 6 w1 z).bind fun _ =>
        (f_X6_grid fu w1 v52 z).bind fun ⟨v53, z⟩ =>
        (ho_xl L xs (w3 + 1)).bind fun v54 =>
        (ho_is 7 w2 z).bind fun _ =>
        (f_X7_grid fu w2 v54 z).bind fun ⟨v55, z⟩ =>
        if v53 = v55 then (
          f_L_law_B689 fu L xs (f_L_law_L28 fu L xs kk n) kk w1 w2 w3 z
        ) else (
          some (0, z)
        )
      ) else (
      if v6 = 9 then (
        (ho_xl L xs (w3 + 1)).bind fun v56 =>
        (ho_xl L xs (w3 + 2)).bind fun v57 =>
        (ho_is 6 w1 z).bind fun _ =>
        (f_X6_repeat fu w1 v56 v57 z).bind fun ⟨v58, z⟩ =>
        (ho_xl L xs (w3 + 1)).bind fun v59 =>
        (ho_xl L xs (w3 + 2)).bind fun v60 =>
        (ho_is 7 w2 z).bind fun _ =>
        (f_X7_repeat fu w2 v59 v60 z).bind fun ⟨v61, z⟩ =>
        if v58 = v61 then (
          f_L_law_B689 fu L xs (f_L_law_L28 fu L xs kk n) kk w1 w2 w3 z
        ) else (
          some (0, z)
        )
      ) else (
      if v6 = 10 then (
        (ho_xl L xs (w3 + 1)).bind fun v62 =>
        (ho_xl L xs (w3 + 2)).bind fun v63 =>
        (ho_is 6 w1 z).bind fun _ =>
        (f_X6_except fu w1 v62 v63 z).bind fun ⟨v64, z⟩ =>
        (ho_xl L xs (w3 + 1)).bind fun v65 =>
        (ho_xl L xs (w3 + 2)).bind fun v66 =>
        (ho_is 7 w2 z).bind fun _ =>
        (f_X7_except fu w2 v65 v66 z).bind fun ⟨v67, z⟩ =>
        if v64 = v67 then (
          f_L_law_B689 fu L xs (f_L_law_L28 fu L xs kk n) kk w1 w2 w3 z
        ) else (
          some (0, z)
        )
      ) else (
      if v6 = 11 then (
        (ho_is 6 w1 z).bind fun _ =>
        (f_X6_judge fu w1 z).bind fun ⟨v68, z⟩ =>
        (ho_is 7 w2 z).bind fun _ =>
        (f_X7_judge fu w2 z).bind fun ⟨v69, z⟩ =>
        if v68 = v69 then (
          f_L_law_B689 fu L xs (f_L_law_L28 fu L xs kk n) kk w1 w2 w3 z
        ) else (
          some (0, z)
        )
      ) else (
      if v6 = 12 then (
        (ho_xl L xs (w3 + 1)).bind fun v70 =>
        (ho_xl L xs (w3 + 2)).bind fun v71 =>
        (ho_is 6 w1 z).bind fun _ =>
        (f_X6_fault fu w1 v70 v71 z).bind fun ⟨v72, z⟩ =>
        (ho_xl L xs (w3 + 1)).bind fun v73 =>
        (ho_xl L xs (w3 + 2)).bind fun v74 =>
        (ho_is 7 w2 z).bind fun _ =>
        (f_X7_fault fu w2 v73 v74 z).bind fun ⟨v75, z⟩ =>
        if v72 = v75 then (
          f_L_law_B689 fu L xs (f_L_law_L28 fu L xs kk n) kk w1 w2 w3 z
        ) else (
          some (0, z)
        )
      ) else (
      if v6 = 13 then (
        (ho_xl L xs (w3 + 1)).bind fun v76 =>
        (ho_is 6 w1 z).bind fun _ =>
        (f_X6_count fu w1 v76 z).bind fun ⟨v77, z⟩ =>
        (ho_xl L xs (w3 + 1)).bind fun v78 =>
        (ho_is 7 w2 z).bind fun _ =>
        (f_X7_count fu w2 v78 z).bind fun ⟨v79, z⟩ =>
        if v77 = v79 then (
          f_L_law_B689 fu L xs (f_L_law_L28 fu L xs kk n) kk w1 w2 w3 z
        ) else (
          some (0, z)
        )
      ) else (
      if v6 = 14 then (
        (ho_is 6 w1 z).bind fun _ =>
        (f_X6_moments fu w1 z).bind fun ⟨v80, z⟩ =>
        (ho_is 7 w2 z).bind fun _ =>
        (f_X7_moments fu w2 z).bind fun ⟨v81, z⟩ =>
        if v80 = v81 then (
          f_L_law_B689 fu L xs (f_L_law_L28 fu L xs kk n) kk w1 w2 w3 z
        ) else (
          some (0, z)
        )
      ) else (
      if v6 = 15 then (
        (ho_xl L xs (w3 + 1)).bind fun v82 =>
        (ho_is 6 w1 z).bind fun _ =>
        (f_X6_time fu w1 v82 z).bind fun ⟨v83, z⟩ =>
        (ho_xl L xs (w3 + 1)).bind fun v84 =>
        (ho_is 7 w2 z).bind fun _ =>
        (f_X7_time fu w2 v84 z).bind fun ⟨v85, z⟩ =>
        if v83 = v85 then (
          f_L_law_B689 fu L xs (f_L_law_L28 fu L xs kk n) kk w1 w2 w3 z
        ) else (
          some (0, z)
        )
      ) else (
      if v6 = 16 then (
        (ho_xl L xs (w3 + 1)).bind fun v86 =>
        (ho_xl L xs (w3 + 2)).bind fun v87 =>
        (ho_is 6 w1 z).bind fun _ =>
        (f_X6_height fu w1 v86 v87 z).bind fun ⟨v88, z⟩ =>
        (ho_xl L xs (w3 + 1)).bind fun v89 =>
        (ho_xl L xs (w3 + 2)).bind fun v90 =>
        (ho_is 7 w2 z).bind fun _ =>
        (f_X7_height fu w2 v89 v90 z).bind fun ⟨v91, z⟩ =>
        if v88 = v91 then (
          f_L_law_B689 fu L xs (f_L_law_L28 fu L xs kk n) kk w1 w2 w3 z
        ) else (
          some (0, z)
        )
      ) else (
      if v6 = 17 then (
        (ho_xl L xs (w3 + 1)).bind fun v92 =>
        (ho_xl L xs (w3 + 2)).bind fun v93 =>
        (ho_xl L xs (w3 + 3)).bind fun v94 =>
        (ho_is 6 w1 z).bind fun _ =>
        (f_X6_interval fu w1 v92 v93 v94 z).bind fun ⟨v95, z⟩ =>
        (ho_xl L xs (w3 + 1)).bind fun v96 =>
        (ho_xl L xs (w3 + 2)).bind fun v97 =>
        (ho_xl L xs (w3 + 3)).bind fun v98 =>
        (ho_is 7 w2 z).bind fun _ =>
        (f_X7_interval fu w2 v96 v97 v98 z).bind fun ⟨v99, z⟩ =>
        if v95 = v99 then (
          f_L_law_B689 fu L xs (f_L_law_L28 fu L xs kk n) kk w1 w2 w3 z
        ) else (
          some (0, z)
        )
      ) else (
      if v6 = 18 then (
        (ho_xl L xs (w3 + 1)).bind fun v100 =>
        (ho_xl L xs (w3 + 2)).bind fun v101 =>
        (ho_xl L xs (w3 + 3)).bind fun v102 =>
        (ho_is 6 w1 z).bind fun _ =>
        (f_X6_event fu w1 v100 v101 v102 z).bind fun ⟨v103, z⟩ =>
        (ho_xl L xs (w3 + 1)).bind fun v104 =>
        (ho_xl L xs (w3 + 2)).bind fun v105 =>
        (ho_xl L xs (w3 + 3)).bind fun v106 =>
        (ho_is 7 w2 z).bind fun _ =>
        (f_X7_event fu w2 v104 v105 v106 z).bind fun ⟨v107, z⟩ =>
        if v103 = v107 then (
          f_L_law_B689 fu L xs (f_L_law_L28 fu L xs kk n) kk w1 w2 w3 z
        ) else (
          some (0, z)
        )
      ) else (
        f_L_law_B689 fu L xs (f_L_law_L28 fu L xs kk n) kk w1 w2 w3 z
      )))))))))))))))))))
    )
def f_L_law (fu : Nat) (L : Nat) (xs : Nat → Int32) (z : hp_S) : Option (Int32 × hp_S) :=
  (ho_nw (6 + 3) z).bind fun ⟨r1, z⟩ =>
  (ho_id (ho_xc L xs)).bind fun v2 =>
  (f_X6_init fu r1 v2 z).bind fun z =>
  (ho_nw (7 + 3) z).bind fun ⟨r3, z⟩ =>
  (ho_id (ho_xc L xs)).bind fun v4 =>
  (f_X7_init fu r3 v4 z).bind fun z =>
  f_L_law_L28 fu L xs (f_L_law_B695 fu L xs) fu r1 r3 1 z
set_option maxHeartbeats 8000000 in
set_option maxRecDepth 100000 in
theorem lx_law {p : Program} {e : Env} {s : State} {m : MethodId} {below : List Frame} {meth : Method} {c : Code} {b L : Nat} {xs : Nat → Int32} {G : hp_G} (l : Launch) (fu : Nat) (z zq : hp_S) (hL : L < 2 ^ 31) (X : hp_C G cL_law RL 4 p s m c) (hr : meth.sig.returnType = ret) (hlocks : meth.locks = false) (hX : va_X b L xs s s.heap) (hbl : b < s.heap.size) (hbA : ¬ hp_A G b) (hG : s.heap.size ≤ G.2.2.1) (h : f_L_law fu L xs z = some (1, zq)) (ls : Array Slot) (hP : hp_P G z s.heap) (hl : lv_has ls 4 [(0, .ref b)]) : W p l e room_1 s m #[Value.ref b] below meth c s.heap [] 0 0 (lw_Z below #[Value.ref b] s) (F0 m 0 ls []) := by
  have hx := X.1
  have hb := X.2.1
  have hS : va_S (hp_A G) s.heap s.heap [] := va_S.rf
  have B695 : ∀ (z : hp_S) (H : Heap) (locs : List Loc) (ls : Array Slot), f_L_law_B695 fu L xs z = some (1, zq) → hp_P G z H → va_S (hp_A G) s.heap H locs → lv_has ls 4 [(0, .ref b)] → W p l e room_1 s m #[Value.ref b] below meth c H locs 600000 7302250 (lw_Z below #[Value.ref b] s) (F0 m 695 ls []) := by
    intro z H locs ls h hP hS hl
    unfold f_L_law_B695 at h
    refine lv_iconst (v := 1) hx hb dL_law_695 (by decide) ?_
    exact lx_ret hx hb hr hlocks hG hS h (Nat.le_of_ble_eq_true rfl) (Nat.le_of_ble_eq_true rfl) dL_law_696
  have L28 : ∀ (n28 : Nat) (w1 : Nat) (w2 : Nat) (w3 : Int32) (z : hp_S) (H : Heap) (locs : List Loc) (ls : Array Slot), f_L_law_L28 fu L xs (f_L_law_B695 fu L xs) n28 w1 w2 w3 z = some (1, zq) → hp_P G z H → va_S (hp_A G) s.heap H locs → lv_has ls 4 [(0, .ref b), (1, .ref w1), (2, .ref w2), (3, .int w3)] → W p l e room_1 s m #[Value.ref b] below meth c H locs 600000 7302250 (lw_Z below #[Value.ref b] s) (F0 m 28 ls []) := by
    intro n28
    induction n28 with
    | zero =>
      intro w1 w2 w3 z H locs ls h
      exact nomatch (h : (none : Option (Int32 × hp_S)) = some (1, zq))
    | succ n28 ih28 =>
      have B689 : ∀ (w1 : Nat) (w2 : Nat) (w3 : Int32) (z : hp_S) (H : Heap) (locs : List Loc) (ls : Array Slot), f_L_law_B689 fu L xs (f_L_law_L28 fu L xs (f_L_law_B695 fu L xs) n28) (f_L_law_B695 fu L xs) w1 w2 w3 z = some (1, zq) → hp_P G z H → va_S (hp_A G) s.heap H locs → lv_has ls 4 [(0, .ref b), (1, .ref w1), (2, .ref w2), (3, .int w3)] → W p l e room_1 s m #[Value.ref b] below meth c H locs 600000 7302250 (lw_Z below #[Value.ref b] s) (F0 m 689 ls []) := by
        intro w1 w2 w3 z H locs ls h hP hS hl
        unfold f_L_law_B689 at h
        obtain ⟨v9, q, h⟩ := ho_bd h
        refine lv_iinc (v := v9) (lv' := [(3, .int v9), (0, .ref b), (1, .ref w1), (2, .ref w2)]) hx hb dL_law_689 hl (k := 3) rfl (Option.some.inj q) (by decide) rfl (fun ls hl => ?_)
        refine lv_goto (tgt := 28) hx hb dL_law_692 (by decide) ?_
        refine W.widen (k := 600000) (n := 7302250) (Nat.le_of_ble_eq_true rfl) (Nat.le_of_ble_eq_true rfl) ?_
        exact ih28 w1 w2 v9 z _ _ _ h hP hS (lv_sub hl [1, 2, 3, 0] rfl)
      intro w1 w2 w3 z H locs ls h hP hS hl
      rw [f_L_law_L28] at h
      refine lv_iload_n hx hb dL_law_28 rfl (lv_at hl 3 rfl) ?_
      refine lv_aload_n hx hb dL_law_29 rfl (lv_at hl 0 rfl) ?_
      refine va_slen hx hb hX hbl hbA hS dL_law_30 ?_
      refine lv_iconst (v := 5) hx hb dL_law_31 (by decide) ?_
      refine lv_isub hx hb dL_law_32 ?_
      refine lv_icmp_gt (tgt := 695) hx hb dL_law_33 (by decide) (fun hc => ?_) (fun hc => ?_)
      · replace h := ho_ip hc h
        refine W.widen (k := 600000) (n := 7302250) (Nat.le_of_ble_eq_true rfl) (Nat.le_of_ble_eq_true rfl) ?_
        exact B695 z _ _ _ h hP hS (lv_sub hl [0] rfl)
      · replace h := ho_in hc h
        refine lv_aload_n hx hb dL_law_36 rfl (lv_at hl 0 rfl) ?_
        refine lv_iload_n hx hb dL_law_37 rfl (lv_at hl 3 rfl) ?_
        obtain ⟨v5, q, h⟩ := ho_bd h
        refine hw_xl hx hb hX hbl hbA hS q dL_law_38 ?_
        refine lv_bipush (v := 31) hx hb dL_law_39 (by decide) ?_
        refine lv_iand hx hb dL_law_41 ?_
        obtain ⟨v6, q, h⟩ := ho_bd h
        refine hw_id q ?_
        by_cases hc0 : v6 = 0
        · replace h := ho_ip hc0 h
          refine lv_tableIn (tgt := 132) hx hb dL_law_42 (by rw [hc0]; decide) (by rw [hc0]; decide) (by rw [hc0]; rfl) (by decide) ?_
          refine lv_aload_n hx hb dL_law_132 rfl (lv_at hl 1 rfl) ?_
          obtain ⟨_, hs, h⟩ := ho_bd h
          obtain ⟨⟨v7, z⟩, q, h⟩ := ho_bd h
          refine hw_ci hS (hp_runV (As := []) (rest := []) X hP hS hl.1 LX6 (ho_is_s hs) kL_21 ⟨m1_225, m1_226⟩ (c_X6_clear l G fu w1 _ _ _ q) rfl (Nat.le_of_ble_eq_true rfl) ⟨⟨Nat.le_of_ble_eq_true rfl, Nat.le_of_ble_eq_true rfl⟩, Nat.le_of_ble_eq_true rfl, Nat.le_of_ble_eq_true rfl⟩ dL_law_133) (fun H locs hP hS => ?_)
          refine lv_aload_n hx hb dL_law_136 rfl (lv_at hl 2 rfl) ?_
          obtain ⟨_, hs, h⟩ := ho_bd h
          obtain ⟨⟨v8, z⟩, q, h⟩ := ho_bd h
          refine hw_ci hS (hp_runV (As := []) (rest := [.int v7]) X hP hS hl.1 LX7 (ho_is_s hs) kL_25 ⟨m3_171, m3_172⟩ (c_X7_clear l G fu w2 _ _ _ q) rfl (Nat.le_of_ble_eq_true rfl) ⟨⟨Nat.le_of_ble_eq_true rfl, Nat.le_of_ble_eq_true rfl⟩, Nat.le_of_ble_eq_true rfl, Nat.le_of_ble_eq_true rfl⟩ dL_law_137) (fun H locs hP hS => ?_)
          refine lv_icmp_eq (tgt := 689) hx hb dL_law_140 (by decide) (fun hc => ?_) (fun hc => ?_)
          · replace h := ho_ip hc h
            refine W.widen (k := 600000) (n := 7302250) (Nat.le_of_ble_eq_true rfl) (Nat.le_of_ble_eq_true rfl) ?_
            exact B689 w1 w2 w3 z _ _ _ h hP hS (lv_sub hl [0, 1, 2, 3] rfl)
          · replace h := ho_in hc h
            refine lv_iconst (v := 0) hx hb dL_law_143 (by decide) ?_
            exact lx_ret hx hb hr hlocks hG hS h (Nat.le_of_ble_eq_true rfl) (Nat.le_of_ble_eq_true rfl) dL_law_144
        replace h := ho_in hc0 h
        by_cases hc1 : v6 = 1
        · replace h := ho_ip hc1 h
          refine lv_tableIn (tgt := 145) hx hb dL_law_42 (by rw [hc1]; decide) (by rw [hc1]; decide) (by rw [hc1]; rfl) (by decide) ?_
          refine lv_aload_n hx hb dL_law_145 rfl (lv_at hl 1 rfl) ?_
          refine lv_aload_n hx hb dL_law_146 rfl (lv_at hl 0 rfl) ?_
          refine lv_iload_n hx hb dL_law_147 rfl (lv_at hl 3 rfl) ?_
          refine lv_iconst (v := 1) hx hb dL_law_148 (by decide) ?_
          refine lv_iadd hx hb dL_law_149 ?_
          obtain ⟨v10, q, h⟩ := ho_bd h
          refine hw_xl hx hb hX hbl hbA hS q dL_law_150 ?_
          refine lv_aload_n hx hb dL_law_151 rfl (lv_at hl 0 rfl) ?_
          refine lv_iload_n hx hb dL_law_152 rfl (lv_at hl 3 rfl) ?_
          refine lv_iconst (v := 2) hx hb dL_law_153 (by decide) ?_
          refine lv_iadd hx hb dL_law_154 ?_
          obtain ⟨v11, q, h⟩ := ho_bd h
          refine hw_xl hx hb hX hbl hbA hS q dL_law_155 ?_
          refine lv_aload_n hx hb dL_law_156 rfl (lv_at hl 0 rfl) ?_
          refine lv_iload_n hx hb dL_law_157 rfl (lv_at hl 3 rfl) ?_
          refine lv_iconst (v := 3) hx hb dL_law_158 (by decide) ?_
          refine lv_iadd hx hb dL_law_159 ?_
          obtain ⟨v12, q, h⟩ := ho_bd h
          refine hw_xl hx hb hX hbl hbA hS q dL_law_160 ?_
          refine lv_aload_n hx hb dL_law_161 rfl (lv_at hl 0 rfl) ?_
          refine lv_iload_n hx hb dL_law_162 rfl (lv_at hl 3 rfl) ?_
          refine lv_iconst (v := 4) hx hb dL_law_163 (by decide) ?_
          refine lv_iadd hx hb dL_law_164 ?_
          obtain ⟨v13, q, h⟩ := ho_bd h
          refine hw_xl hx hb hX hbl hbA hS q dL_law_165 ?_
          obtain ⟨_, hs, h⟩ := ho_bd h
          obtain ⟨⟨v14, z⟩, q, h⟩ := ho_bd h
          refine hw_ci hS (hp_runV (As := [.int v10, .int v11, .int v12, .int v13]) (rest := []) X hP hS hl.1 LX6 (ho_is_s hs) kL_26 ⟨m2_27, m2_28⟩ (c_X6_note l G fu w1 v10 v11 v12 v13 _ _ _ q) rfl (Nat.le_of_ble_eq_true rfl) ⟨⟨Nat.le_of_ble_eq_true rfl, Nat.le_of_ble_eq_true rfl⟩, Nat.le_of_ble_eq_true rfl, Nat.le_of_ble_eq_true rfl⟩ dL_law_166) (fun H locs hP hS => ?_)
          refine lv_aload_n hx hb dL_law_169 rfl (lv_at hl 2 rfl) ?_
          refine lv_aload_n hx hb dL_law_170 rfl (lv_at hl 0 rfl) ?_
          refine lv_iload_n hx hb dL_law_171 rfl (lv_at hl 3 rfl) ?_
          refine lv_iconst (v := 1) hx hb dL_law_172 (by decide) ?_
          refine lv_iadd hx hb dL_law_173 ?_
          obtain ⟨v15, q, h⟩ := ho_bd h
          refine hw_xl hx hb hX hbl hbA hS q dL_law_174 ?_
          refine lv_aload_n hx hb dL_law_175 rfl (lv_at hl 0 rfl) ?_
          refine lv_iload_n hx hb dL_law_176 rfl (lv_at hl 3 rfl) ?_
          refine lv_iconst (v := 2) hx hb dL_law_177 (by decide) ?_
          refine lv_iadd hx hb dL_law_178 ?_
          obtain ⟨v16, q, h⟩ := ho_bd h
          refine hw_xl hx hb hX hbl hbA hS q dL_law_179 ?_
          refine lv_aload_n hx hb dL_law_180 rfl (lv_at hl 0 rfl) ?_
          refine lv_iload_n hx hb dL_law_181 rfl (lv_at hl 3 rfl) ?_
          refine lv_iconst (v := 3) hx hb dL_law_182 (by decide) ?_
          refine lv_iadd hx hb dL_law_183 ?_
          obtain ⟨v17, q, h⟩ := ho_bd h
          refine hw_xl hx hb hX hbl hbA hS q dL_law_184 ?_
          refine lv_aload_n hx hb dL_law_185 rfl (lv_at hl 0 rfl) ?_
          refine lv_iload_n hx hb dL_law_186 rfl (lv_at hl 3 rfl) ?_
          refine lv_iconst (v := 4) hx hb dL_law_187 (by decide) ?_
          refine lv_iadd hx hb dL_law_188 ?_
          obtain ⟨v18, q, h⟩ := ho_bd h
          refine hw_xl hx hb hX hbl hbA hS q dL_law_189 ?_
          obtain ⟨_, hs, h⟩ := ho_bd h
          obtain ⟨⟨v19, z⟩, q, h⟩ := ho_bd h
          refine hw_ci hS (hp_runV (As := [.int v15, .int v16, .int v17, .int v18]) (rest := [.int v14]) X hP hS hl.1 LX7 (ho_is_s hs) kL_30 ⟨m3_175, m3_176⟩ (c_X7_note l G fu w2 v15 v16 v17 v18 _ _ _ q) rfl (Nat.le_of_ble_eq_true rfl) ⟨⟨Nat.le_of_ble_eq_true rfl, Nat.le_of_ble_eq_true rfl⟩, Nat.le_of_ble_eq_true rfl, Nat.le_of_ble_eq_true rfl⟩ dL_law_190) (fun H locs hP hS => ?_)
          refine lv_icmp_eq (tgt := 689) hx hb dL_law_193 (by decide) (fun hc => ?_) (fun hc => ?_)
          · replace h := ho_ip hc h
            refine W.widen (k := 600000) (n := 7302250) (Nat.le_of_ble_eq_true rfl) (Nat.le_of_ble_eq_true rfl) ?_
            exact B689 w1 w2 w3 z _ _ _ h hP hS (lv_sub hl [0, 1, 2, 3] rfl)
          · replace h := ho_in hc h
            refine lv_iconst (v := 0) hx hb dL_law_196 (by decide) ?_
            exact lx_ret hx hb hr hlocks hG hS h (Nat.le_of_ble_eq_true rfl) (Nat.le_of_ble_eq_true rfl) dL_law_197
        replace h := ho_in hc1 h
        by_cases hc2 : v6 = 2
        · replace h := ho_ip hc2 h
          refine lv_tableIn (tgt := 198) hx hb dL_law_42 (by rw [hc2]; decide) (by rw [hc2]; decide) (by rw [hc2]; rfl) (by decide) ?_
          refine lv_aload_n hx hb dL_law_198 rfl (lv_at hl 1 rfl) ?_
          refine lv_aload_n hx hb dL_law_199 rfl (lv_at hl 0 rfl) ?_
          refine lv_iload_n hx hb dL_law_200 rfl (lv_at hl 3 rfl) ?_
          refine lv_iconst (v := 1) hx hb dL_law_201 (by decide) ?_
          refine lv_iadd hx hb dL_law_202 ?_
          obtain ⟨v20, q, h⟩ := ho_bd h
          refine hw_xl hx hb hX hbl hbA hS q dL_law_203 ?_
          refine lv_aload_n hx hb dL_law_204 rfl (lv_at hl 0 rfl) ?_
          refine lv_iload_n hx hb dL_law_205 rfl (lv_at hl 3 rfl) ?_
          refine lv_iconst (v := 2) hx hb dL_law_206 (by decide) ?_
          refine lv_iadd hx hb dL_law_207 ?_
          obtain ⟨v21, q, h⟩ := ho_bd h
          refine hw_xl hx hb hX hbl hbA hS q dL_law_208 ?_
          obtain ⟨_, hs, h⟩ := ho_bd h
          obtain ⟨⟨v22, z⟩, q, h⟩ := ho_bd h
          refine hw_ci hS (hp_runV (As := [.int v20, .int v21]) (rest := []) X hP hS hl.1 LX6 (ho_is_s hs) kL_31 ⟨m2_50, m2_51⟩ (c_X6_rest l G fu w1 v20 v21 _ _ _ q) rfl (Nat.le_of_ble_eq_true rfl) ⟨⟨Nat.le_of_ble_eq_true rfl, Nat.le_of_ble_eq_true rfl⟩, Nat.le_of_ble_eq_true rfl, Nat.le_of_ble_eq_true rfl⟩ dL_law_209) (fun H locs hP hS => ?_)
          refine lv_aload_n hx hb dL_law_212 rfl (lv_at hl 2 rfl) ?_
          refine lv_aload_n hx hb dL_law_213 rfl (lv_at hl 0 rfl) ?_
          refine lv_iload_n hx hb dL_law_214 rfl (lv_at hl 3 rfl) ?_
          refine lv_iconst (v := 1) hx hb dL_law_215 (by decide) ?_
          refine lv_iadd hx hb dL_law_216 ?_
          obtain ⟨v23, q, h⟩ := ho_bd h
          refine hw_xl hx hb hX hbl hbA hS q dL_law_217 ?_
          refine lv_aload_n hx hb dL_law_218 rfl (lv_at hl 0 rfl) ?_
          refine lv_iload_n hx hb dL_law_219 rfl (lv_at hl 3 rfl) ?_
          refine lv_iconst (v := 2) hx hb dL_law_220 (by decide) ?_
          refine lv_iadd hx hb dL_law_221 ?_
          obtain ⟨v24, q, h⟩ := ho_bd h
          refine hw_xl hx hb hX hbl hbA hS q dL_law_222 ?_
          obtain ⟨_, hs, h⟩ := ho_bd h
          obtain ⟨⟨v25, z⟩, q, h⟩ := ho_bd h
          refine hw_ci hS (hp_runV (As := [.int v23, .int v24]) (rest := [.int v22]) X hP hS hl.1 LX7 (ho_is_s hs) kL_35 ⟨m3_190, m3_191⟩ (c_X7_rest l G fu w2 v23 v24 _ _ _ q) rfl (Nat.le_of_ble_eq_true rfl) ⟨⟨Nat.le_of_ble_eq_true rfl, Nat.le_of_ble_eq_true rfl⟩, Nat.le_of_ble_eq_true rfl, Nat.le_of_ble_eq_true rfl⟩ dL_law_223) (fun H locs hP hS => ?_)
          refine lv_icmp_eq (tgt := 689) hx hb dL_law_226 (by decide) (fun hc => ?_) (fun hc => ?_)
          · replace h := ho_ip hc h
            refine W.widen (k := 600000) (n := 7302250) (Nat.le_of_ble_eq_true rfl) (Nat.le_of_ble_eq_true rfl) ?_
            exact B689 w1 w2 w3 z _ _ _ h hP hS (lv_sub hl [0, 1, 2, 3] rfl)
          · replace h := ho_in hc h
            refine lv_iconst (v := 0) hx hb dL_law_229 (by decide) ?_
            exact lx_ret hx hb hr hlocks hG hS h (Nat.le_of_ble_eq_true rfl) (Nat.le_of_ble_eq_true rfl) dL_law_230
        replace h := ho_in hc2 h
        by_cases hc3 : v6 = 3
        · replace h := ho_ip hc3 h
          refine lv_tableIn (tgt := 231) hx hb dL_law_42 (by rw [hc3]; decide) (by rw [hc3]; decide) (by rw [hc3]; rfl) (by decide) ?_
          refine lv_aload_n hx hb dL_law_231 rfl (lv_at hl 1 rfl) ?_
          refine lv_aload_n hx hb dL_law_232 rfl (lv_at hl 0 rfl) ?_
          refine lv_iload_n hx hb dL_law_233 rfl (lv_at hl 3 rfl) ?_
          refine lv_iconst (v := 1) hx hb dL_law_234 (by decide) ?_
          refine lv_iadd hx hb dL_law_235 ?_
          obtain ⟨v26, q, h⟩ := ho_bd h
          refine hw_xl hx hb hX hbl hbA hS q dL_law_236 ?_
          obtain ⟨_, hs, h⟩ := ho_bd h
          obtain ⟨⟨v27, z⟩, q, h⟩ := ho_bd h
          refine hw_ci hS (hp_runV (As := [.int v26]) (rest := []) X hP hS hl.1 LX6 (ho_is_s hs) kL_36 ⟨m2_54, m2_55⟩ (c_X6_take l G fu w1 v26 _ _ _ q) rfl (Nat.le_of_ble_eq_true rfl) ⟨⟨Nat.le_of_ble_eq_true rfl, Nat.le_of_ble_eq_true rfl⟩, Nat.le_of_ble_eq_true rfl, Nat.le_of_ble_eq_true rfl⟩ dL_law_237) (fun H locs hP hS => ?_)
          refine lv_aload_n hx hb dL_law_240 rfl (lv_at hl 2 rfl) ?_
          refine lv_aload_n hx hb dL_law_241 rfl (lv_at hl 0 rfl) ?_
          refine lv_iload_n hx hb dL_law_242 rfl (lv_at hl 3 rfl) ?_
          refine lv_iconst (v := 1) hx hb dL_law_243 (by decide) ?_
          refine lv_iadd hx hb dL_law_244 ?_
          obtain ⟨v28, q, h⟩ := ho_bd h
          refine hw_xl hx hb hX hbl hbA hS q dL_law_245 ?_
          obtain ⟨_, hs, h⟩ := ho_bd h
          obtain ⟨⟨v29, z⟩, q, h⟩ := ho_bd h
          refine hw_ci hS (hp_runV (As := [.int v28]) (rest := [.int v27]) X hP hS hl.1 LX7 (ho_is_s hs) kL_40 ⟨m3_194, m3_195⟩ (c_X7_take l G fu w2 v28 _ _ _ q) rfl (Nat.le_of_ble_eq_true rfl) ⟨⟨Nat.le_of_ble_eq_true rfl, Nat.le_of_ble_eq_true rfl⟩, Nat.le_of_ble_eq_true rfl, Nat.le_of_ble_eq_true rfl⟩ dL_law_246) (fun H locs hP hS => ?_)
          refine lv_icmp_eq (tgt := 689) hx hb dL_law_249 (by decide) (fun hc => ?_) (fun hc => ?_)
          · replace h := ho_ip hc h
            refine W.widen (k := 600000) (n := 7302250) (Nat.le_of_ble_eq_true rfl) (Nat.le_of_ble_eq_true rfl) ?_
            exact B689 w1 w2 w3 z _ _ _ h hP hS (lv_sub hl [0, 1, 2, 3] rfl)
          · replace h := ho_in hc h
            refine lv_iconst (v := 0) hx hb dL_law_252 (by decide) ?_
            exact lx_ret hx hb hr hlocks hG hS h (Nat.le_of_ble_eq_true rfl) (Nat.le_of_ble_eq_true rfl) dL_law_253
        replace h := ho_in hc3 h
        by_cases hc4 : v6 = 4
        · replace h := ho_ip hc4 h
          refine lv_tableIn (tgt := 254) hx hb dL_law_42 (by rw [hc4]; decide) (by rw [hc4]; decide) (by rw [hc4]; rfl) (by decide) ?_
          refine lv_aload_n hx hb dL_law_254 rfl (lv_at hl 1 rfl) ?_
          refine lv_aload_n hx hb dL_law_255 rfl (lv_at hl 0 rfl) ?_
          refine lv_iload_n hx hb dL_law_256 rfl (lv_at hl 3 rfl) ?_
          refine lv_iconst (v := 1) hx hb dL_law_257 (by decide) ?_
          refine lv_iadd hx hb dL_law_258 ?_
          obtain ⟨v30, q, h⟩ := ho_bd h
          refine hw_xl hx hb hX hbl hbA hS q dL_law_259 ?_
          refine lv_aload_n hx hb dL_law_260 rfl (lv_at hl 0 rfl) ?_
          refine lv_iload_n hx hb dL_law_261 rfl (lv_at hl 3 rfl) ?_
          refine lv_iconst (v := 2) hx hb dL_law_262 (by decide) ?_
          refine lv_iadd hx hb dL_law_263 ?_
          obtain ⟨v31, q, h⟩ := ho_bd h
          refine hw_xl hx hb hX hbl hbA hS q dL_law_264 ?_
          obtain ⟨_, hs, h⟩ := ho_bd h
          obtain ⟨⟨v32, z⟩, q, h⟩ := ho_bd h
          refine hw_ci hS (hp_runV (As := [.int v30, .int v31]) (rest := []) X hP hS hl.1 LX6 (ho_is_s hs) kL_41 ⟨m2_62, m2_63⟩ (c_X6_rule l G fu w1 v30 v31 _ _ _ q) rfl (Nat.le_of_ble_eq_true rfl) ⟨⟨Nat.le_of_ble_eq_true rfl, Nat.le_of_ble_eq_true rfl⟩, Nat.le_of_ble_eq_true rfl, Nat.le_of_ble_eq_true rfl⟩ dL_law_265) (fun H locs hP hS => ?_)
          refine lv_aload_n hx hb dL_law_268 rfl (lv_at hl 2 rfl) ?_
          refine lv_aload_n hx hb dL_law_269 rfl (lv_at hl 0 rfl) ?_
          refine lv_iload_n hx hb dL_law_270 rfl (lv_at hl 3 rfl) ?_
          refine lv_iconst (v := 1) hx hb dL_law_271 (by decide) ?_
          refine lv_iadd hx hb dL_law_272 ?_
          obtain ⟨v33, q, h⟩ := ho_bd h
          refine hw_xl hx hb hX hbl hbA hS q dL_law_273 ?_
          refine lv_aload_n hx hb dL_law_274 rfl (lv_at hl 0 rfl) ?_
          refine lv_iload_n hx hb dL_law_275 rfl (lv_at hl 3 rfl) ?_
          refine lv_iconst (v := 2) hx hb dL_law_276 (by decide) ?_
          refine lv_iadd hx hb dL_law_277 ?_
          obtain ⟨v34, q, h⟩ := ho_bd h
          refine hw_xl hx hb hX hbl hbA hS q dL_law_278 ?_
          obtain ⟨_, hs, h⟩ := ho_bd h
          obtain ⟨⟨v35, z⟩, q, h⟩ := ho_bd h
          refine hw_ci hS (hp_runV (As := [.int v33, .int v34]) (rest := [.int v32]) X hP hS hl.1 LX7 (ho_is_s hs) kL_44 ⟨m3_198, m3_199⟩ (c_X7_rule l G fu w2 v33 v34 _ _ _ q) rfl (Nat.le_of_ble_eq_true rfl) ⟨⟨Nat.le_of_ble_eq_true rfl, Nat.le_of_ble_eq_true rfl⟩, Nat.le_of_ble_eq_true rfl, Nat.le_of_ble_eq_true rfl⟩ dL_law_279) (fun H locs hP hS => ?_)
          refine lv_icmp_eq (tgt := 689) hx hb dL_law_282 (by decide) (fun hc => ?_) (fun hc => ?_)
          · replace h := ho_ip hc h
            refine W.widen (k := 600000) (n := 7302250) (Nat.le_of_ble_eq_true rfl) (Nat.le_of_ble_eq_true rfl) ?_
            exact B689 w1 w2 w3 z _ _ _ h hP hS (lv_sub hl [0, 1, 2, 3] rfl)
          · replace h := ho_in hc h
            refine lv_iconst (v := 0) hx hb dL_law_285 (by decide) ?_
            exact lx_ret hx hb hr hlocks hG hS h (Nat.le_of_ble_eq_true rfl) (Nat.le_of_ble_eq_true rfl) dL_law_286
        replace h := ho_in hc4 h
        by_cases hc5 : v6 = 5
        · replace h := ho_ip hc5 h
          refine lv_tableIn (tgt := 287) hx hb dL_law_42 (by rw [hc5]; decide) (by rw [hc5]; decide) (by rw [hc5]; rfl) (by decide) ?_
          refine lv_aload_n hx hb dL_law_287 rfl (lv_at hl 1 rfl) ?_
          refine lv_aload_n hx hb dL_law_288 rfl (lv_at hl 0 rfl) ?_
          refine lv_iload_n hx hb dL_law_289 rfl (lv_at hl 3 rfl) ?_
          refine lv_iconst (v := 1) hx hb dL_law_290 (by decide) ?_
          refine lv_iadd hx hb dL_law_291 ?_
          obtain ⟨v36, q, h⟩ := ho_bd h
          refine hw_xl hx hb hX hbl hbA hS q dL_law_292 ?_
          obtain ⟨_, hs, h⟩ := ho_bd h
          obtain ⟨⟨v37, z⟩, q, h⟩ := ho_bd h
          refine hw_ci hS (hp_runV (As := [.int v36]) (rest := []) X hP hS hl.1 LX6 (ho_is_s hs) kL_45 ⟨m2_69, m2_70⟩ (c_X6_style l G fu w1 v36 _ _ _ q) rfl (Nat.le_of_ble_eq_true rfl) ⟨⟨Nat.le_of_ble_eq_true rfl, Nat.le_of_ble_eq_true rfl⟩, Nat.le_of_ble_eq_true rfl, Nat.le_of_ble_eq_true rfl⟩ dL_law_293) (fun H locs hP hS => ?_)
          refine lv_aload_n hx hb dL_law_296 rfl (lv_at hl 2 rfl) ?_
          refine lv_aload_n hx hb dL_law_297 rfl (lv_at hl 0 rfl) ?_
          refine lv_iload_n hx hb dL_law_298 rfl (lv_at hl 3 rfl) ?_
          refine lv_iconst (v := 1) hx hb dL_law_299 (by decide) ?_
          refine lv_iadd hx hb dL_law_300 ?_
          obtain ⟨v38, q, h⟩ := ho_bd h
          refine hw_xl hx hb hX hbl hbA hS q dL_law_301 ?_
          obtain ⟨_, hs, h⟩ := ho_bd h
          obtain ⟨⟨v39, z⟩, q, h⟩ := ho_bd h
          refine hw_ci hS (hp_runV (As := [.int v38]) (rest := [.int v37]) X hP hS hl.1 LX7 (ho_is_s hs) kL_48 ⟨m3_202, m3_203⟩ (c_X7_style l G fu w2 v38 _ _ _ q) rfl (Nat.le_of_ble_eq_true rfl) ⟨⟨Nat.le_of_ble_eq_true rfl, Nat.le_of_ble_eq_true rfl⟩, Nat.le_of_ble_eq_true rfl, Nat.le_of_ble_eq_true rfl⟩ dL_law_302) (fun H locs hP hS => ?_)
          refine lv_icmp_eq (tgt := 689) hx hb dL_law_305 (by decide) (fun hc => ?_) (fun hc => ?_)
          · replace h := ho_ip hc h
            refine W.widen (k := 600000) (n := 7302250) (Nat.le_of_ble_eq_true rfl) (Nat.le_of_ble_eq_true rfl) ?_
            exact B689 w1 w2 w3 z _ _ _ h hP hS (lv_sub hl [0, 1, 2, 3] rfl)
          · replace h := ho_in hc h
            refine lv_iconst (v := 0) hx hb dL_law_308 (by decide) ?_
            exact lx_ret hx hb hr hlocks hG hS h (Nat.le_of_ble_eq_true rfl) (Nat.le_of_ble_eq_true rfl) dL_law_309
        replace h := ho_in hc5 h
        by_cases hc6 : v6 = 6
        · replace h := ho_ip hc6 h
          refine lv_tableIn (tgt := 310) hx hb dL_law_42 (by rw [hc6]; decide) (by rw [hc6]; decide) (by rw [hc6]; rfl) (by decide) ?_
          refine lv_aload_n hx hb dL_law_310 rfl (lv_at hl 1 rfl) ?_
          refine lv_aload_n hx hb dL_law_311 rfl (lv_at hl 0 rfl) ?_
          refine lv_iload_n hx hb dL_law_312 rfl (lv_at hl 3 rfl) ?_
          refine lv_iconst (v := 1) hx hb dL_law_313 (by decide) ?_
          refine lv_iadd hx hb dL_law_314 ?_
          obtain ⟨v40, q, h⟩ := ho_bd h
          refine hw_xl hx hb hX hbl hbA hS q dL_law_315 ?_
          obtain ⟨_, hs, h⟩ := ho_bd h
          obtain ⟨⟨v41, z⟩, q, h⟩ := ho_bd h
          refine hw_ci hS (hp_runV (As := [.int v40]) (rest := []) X hP hS hl.1 LX6 (ho_is_s hs) kL_49 ⟨m2_79, m2_80⟩ (c_X6_key l G fu w1 v40 _ _ _ q) rfl (Nat.le_of_ble_eq_true rfl) ⟨⟨Nat.le_of_ble_eq_true rfl, Nat.le_of_ble_eq_true rfl⟩, Nat.le_of_ble_eq_true rfl, Nat.le_of_ble_eq_true rfl⟩ dL_law_316) (fun H locs hP hS => ?_)
          refine lv_aload_n hx hb dL_law_319 rfl (lv_at hl 2 rfl) ?_
          refine lv_aload_n hx hb dL_law_320 rfl (lv_at hl 0 rfl) ?_
          refine lv_iload_n hx hb dL_law_321 rfl (lv_at hl 3 rfl) ?_
          refine lv_iconst (v := 1) hx hb dL_law_322 (by decide) ?_
          refine lv_iadd hx hb dL_law_323 ?_
          obtain ⟨v42, q, h⟩ := ho_bd h
          refine hw_xl hx hb hX hbl hbA hS q dL_law_324 ?_
          obtain ⟨_, hs, h⟩ := ho_bd h
          obtain ⟨⟨v43, z⟩, q, h⟩ := ho_bd h
          refine hw_ci hS (hp_runV (As := [.int v42]) (rest := [.int v41]) X hP hS hl.1 LX7 (ho_is_s hs) kL_52 ⟨m3_206, m3_207⟩ (c_X7_key l G fu w2 v42 _ _ _ q) rfl (Nat.le_of_ble_eq_true rfl) ⟨⟨Nat.le_of_ble_eq_true rfl, Nat.le_of_ble_eq_true rfl⟩, Nat.le_of_ble_eq_true rfl, Nat.le_of_ble_eq_true rfl⟩ dL_law_325) (fun H locs hP hS => ?_)
          refine lv_icmp_eq (tgt := 689) hx hb dL_law_328 (by decide) (fun hc => ?_) (fun hc => ?_)
          · replace h := ho_ip hc h
            refine W.widen (k := 600000) (n := 7302250) (Nat.le_of_ble_eq_true rfl) (Nat.le_of_ble_eq_true rfl) ?_
            exact B689 w1 w2 w3 z _ _ _ h hP hS (lv_sub hl [0, 1, 2, 3] rfl)
          · replace h := ho_in hc h
            refine lv_iconst (v := 0) hx hb dL_law_331 (by decide) ?_
            exact lx_ret hx hb hr hlocks hG hS h (Nat.le_of_ble_eq_true rfl) (Nat.le_of_ble_eq_true rfl) dL_law_332
        replace h := ho_in hc6 h
        by_cases hc7 : v6 = 7
        · replace h := ho_ip hc7 h
          refine lv_tableIn (tgt := 333) hx hb dL_law_42 (by rw [hc7]; decide) (by rw [hc7]; decide) (by rw [hc7]; rfl) (by decide) ?_
          refine lv_aload_n hx hb dL_law_333 rfl (lv_at hl 1 rfl) ?_
          refine lv_aload_n hx hb dL_law_334 rfl (lv_at hl 0 rfl) ?_
          refine lv_iload_n hx hb dL_law_335 rfl (lv_at hl 3 rfl) ?_
          refine lv_iconst (v := 1) hx hb dL_law_336 (by decide) ?_
          refine lv_iadd hx hb dL_law_337 ?_
          obtain ⟨v44, q, h⟩ := ho_bd h
          refine hw_xl hx hb hX hbl hbA hS q dL_law_338 ?_
          refine lv_aload_n hx hb dL_law_339 rfl (lv_at hl 0 rfl) ?_
          refine lv_iload_n hx hb dL_law_340 rfl (lv_at hl 3 rfl) ?_
          refine lv_iconst (v := 2) hx hb dL_law_341 (by decide) ?_
          refine lv_iadd hx hb dL_law_342 ?_
          obtain ⟨v45, q, h⟩ := ho_bd h
          refine hw_xl hx hb hX hbl hbA hS q dL_law_343 ?_
          refine lv_aload_n hx hb dL_law_344 rfl (lv_at hl 0 rfl) ?_
          refine lv_iload_n hx hb dL_law_345 rfl (lv_at hl 3 rfl) ?_
          refine lv_iconst (v := 3) hx hb dL_law_346 (by decide) ?_
          refine lv_iadd hx hb dL_law_347 ?_
          obtain ⟨v46, q, h⟩ := ho_bd h
          refine hw_xl hx hb hX hbl hbA hS q dL_law_348 ?_
          obtain ⟨_, hs, h⟩ := ho_bd h
          obtain ⟨⟨v47, z⟩, q, h⟩ := ho_bd h
          refine hw_ci hS (hp_runV (As := [.int v44, .int v45, .int v46]) (rest := []) X hP hS hl.1 LX6 (ho_is_s hs) kL_53 ⟨m2_83, m2_84⟩ (c_X6_range l G fu w1 v44 v45 v46 _ _ _ q) rfl (Nat.le_of_ble_eq_true rfl) ⟨⟨Nat.le_of_ble_eq_true rfl, Nat.le_of_ble_eq_true rfl⟩, Nat.le_of_ble_eq_true rfl, Nat.le_of_ble_eq_true rfl⟩ dL_law_349) (fun H locs hP hS => ?_)
          refine lv_aload_n hx hb dL_law_352 rfl (lv_at hl 2 rfl) ?_
          refine lv_aload_n hx hb dL_law_353 rfl (lv_at hl 0 rfl) ?_
          refine lv_iload_n hx hb dL_law_354 rfl (lv_at hl 3 rfl) ?_
          refine lv_iconst (v := 1) hx hb dL_law_355 (by decide) ?_
          refine lv_iadd hx hb dL_law_356 ?_
          obtain ⟨v48, q, h⟩ := ho_bd h
          refine hw_xl hx hb hX hbl hbA hS q dL_law_357 ?_
          refine lv_aload_n hx hb dL_law_358 rfl (lv_at hl 0 rfl) ?_
          refine lv_iload_n hx hb dL_law_359 rfl (lv_at hl 3 rfl) ?_
          refine lv_iconst (v := 2) hx hb dL_law_360 (by decide) ?_
          refine lv_iadd hx hb dL_law_361 ?_
          obtain ⟨v49, q, h⟩ := ho_bd h
          refine hw_xl hx hb hX hbl hbA hS q dL_law_362 ?_
          refine lv_aload_n hx hb dL_law_363 rfl (lv_at hl 0 rfl) ?_
          refine lv_iload_n hx hb dL_law_364 rfl (lv_at hl 3 rfl) ?_
          refine lv_iconst (v := 3) hx hb dL_law_365 (by decide) ?_
          refine lv_iadd hx hb dL_law_366 ?_
          obtain ⟨v50, q, h⟩ := ho_bd h
          refine hw_xl hx hb hX hbl hbA hS q dL_law_367 ?_
          obtain ⟨_, hs, h⟩ := ho_bd h
          obtain ⟨⟨v51, z⟩, q, h⟩ := ho_bd h
          refine hw_ci hS (hp_runV (As := [.int v48, .int v49, .int v50]) (rest := [.int v47]) X hP hS hl.1 LX7 (ho_is_s hs) kL_57 ⟨m3_210, m3_211⟩ (c_X7_range l G fu w2 v48 v49 v50 _ _ _ q) rfl (Nat.le_of_ble_eq_true rfl) ⟨⟨Nat.le_of_ble_eq_true rfl, Nat.le_of_ble_eq_true rfl⟩, Nat.le_of_ble_eq_true rfl, Nat.le_of_ble_eq_true rfl⟩ dL_law_368) (fun H locs hP hS => ?_)
          refine lv_icmp_eq (tgt := 689) hx hb dL_law_371 (by decide) (fun hc => ?_) (fun hc => ?_)
          · replace h := ho_ip hc h
            refine W.widen (k := 600000) (n := 7302250) (Nat.le_of_ble_eq_true rfl) (Nat.le_of_ble_eq_true rfl) ?_
            exact B689 w1 w2 w3 z _ _ _ h hP hS (lv_sub hl [0, 1, 2, 3] rfl)
          · replace h := ho_in hc h
            refine lv_iconst (v := 0) hx hb dL_law_374 (by decide) ?_
            exact lx_ret hx hb hr hlocks hG hS h (Nat.le_of_ble_eq_true rfl) (Nat.le_of_ble_eq_true rfl) dL_law_375
        replace h := ho_in hc7 h
        by_cases hc8 : v6 = 8
        · replace h := ho_ip hc8 h
          refine lv_tableIn (tgt := 376) hx hb dL_law_42 (by rw [hc8]; decide) (by rw [hc8]; decide) (by rw [hc8]; rfl) (by decide) ?_
          refine lv_aload_n hx hb dL_law_376 rfl (lv_at hl 1 rfl) ?_
          refine lv_aload_n hx hb dL_law_377 rfl (lv_at hl 0 rfl) ?_
          refine lv_iload_n hx hb dL_law_378 rfl (lv_at hl 3 rfl) ?_
          refine lv_iconst (v := 1) hx hb dL_law_379 (by decide) ?_
          refine lv_iadd hx hb dL_law_380 ?_
          obtain ⟨v52, q, h⟩ := ho_bd h
          refine hw_xl hx hb hX hbl hbA hS q dL_law_381 ?_
          obtain ⟨_, hs, h⟩ := ho_bd h
          obtain ⟨⟨v53, z⟩, q, h⟩ := ho_bd h
          refine hw_ci hS (hp_runV (As := [.int v52]) (rest := []) X hP hS hl.1 LX6 (ho_is_s hs) kL_58 ⟨m2_105, m2_106⟩ (c_X6_grid l G fu w1 v52 _ _ _ q) rfl (Nat.le_of_ble_eq_true rfl) ⟨⟨Nat.le_of_ble_eq_true rfl, Nat.le_of_ble_eq_true rfl⟩, Nat.le_of_ble_eq_true rfl, Nat.le_of_ble_eq_true rfl⟩ dL_law_382) (fun H locs hP hS => ?_)
          refine lv_aload_n hx hb dL_law_385 rfl (lv_at hl 2 rfl) ?_
          refine lv_aload_n hx hb dL_law_386 rfl (lv_at hl 0 rfl) ?_
          refine lv_iload_n hx hb dL_law_387 rfl (lv_at hl 3 rfl) ?_
          refine lv_iconst (v := 1) hx hb dL_law_388 (by decide) ?_
          refine lv_iadd hx hb dL_law_389 ?_
          obtain ⟨v54, q, h⟩ := ho_bd h
          refine hw_xl hx hb hX hbl hbA hS q dL_law_390 ?_
          obtain ⟨_, hs, h⟩ := ho_bd h
          obtain ⟨⟨v55, z⟩, q, h⟩ := ho_bd h
          refine hw_ci hS (hp_runV (As := [.int v54]) (rest := [.int v53]) X hP hS hl.1 LX7 (ho_is_s hs) kL_61 ⟨m3_221, m3_222⟩ (c_X7_grid l G fu w2 v54 _ _ _ q) rfl (Nat.le_of_ble_eq_true rfl) ⟨⟨Nat.le_of_ble_eq_true rfl, Nat.le_of_ble_eq_true rfl⟩, Nat.le_of_ble_eq_true rfl, Nat.le_of_ble_eq_true rfl⟩ dL_law_391) (fun H locs hP hS => ?_)
          refine lv_icmp_eq (tgt := 689) hx hb dL_law_394 (by decide) (fun hc => ?_) (fun hc => ?_)
          · replace h := ho_ip hc h
            refine W.widen (k := 600000) (n := 7302250) (Nat.le_of_ble_eq_true rfl) (Nat.le_of_ble_eq_true rfl) ?_
            exact B689 w1 w2 w3 z _ _ _ h hP hS (lv_sub hl [0, 1, 2, 3] rfl)
          · replace h := ho_in hc h
            refine lv_iconst (v := 0) hx hb dL_law_397 (by decide) ?_
            exact lx_ret hx hb hr hlocks hG hS h (Nat.le_of_ble_eq_true rfl) (Nat.le_of_ble_eq_true rfl) dL_law_398
        replace h := ho_in hc8 h
        by_cases hc9 : v6 = 9
        · replace h := ho_ip hc9 h
          refine lv_tableIn (tgt := 399) hx hb dL_law_42 (by rw [hc9]; decide) (by rw [hc9]; decide) (by rw [hc9]; rfl) (by decide) ?_
          refine lv_aload_n hx hb dL_law_399 rfl (lv_at hl 1 rfl) ?_
          refine lv_aload_n hx hb dL_law_400 rfl (lv_at hl 0 rfl) ?_
          refine lv_iload_n hx hb dL_law_401 rfl (lv_at hl 3 rfl) ?_
          refine lv_iconst (v := 1) hx hb dL_law_402 (by decide) ?_
          refine lv_iadd hx hb dL_law_403 ?_
          obtain ⟨v56, q, h⟩ := ho_bd h
          refine hw_xl hx hb hX hbl hbA hS q dL_law_404 ?_
          refine lv_aload_n hx hb dL_law_405 rfl (lv_at hl 0 rfl) ?_
          refine lv_iload_n hx hb dL_law_406 rfl (lv_at hl 3 rfl) ?_
          refine lv_iconst (v := 2) hx hb dL_law_407 (by decide) ?_
          refine lv_iadd hx hb dL_law_408 ?_
          obtain ⟨v57, q, h⟩ := ho_bd h
          refine hw_xl hx hb hX hbl hbA hS q dL_law_409 ?_
          obtain ⟨_, hs, h⟩ := ho_bd h
          obtain ⟨⟨v58, z⟩, q, h⟩ := ho_bd h
          refine hw_ci hS (hp_runV (As := [.int v56, .int v57]) (rest := []) X hP hS hl.1 LX6 (ho_is_s hs) kL_62 ⟨m2_109, m2_110⟩ (c_X6_repeat l G fu w1 v56 v57 _ _ _ q) rfl (Nat.le_of_ble_eq_true rfl) ⟨⟨Nat.le_of_ble_eq_true rfl, Nat.le_of_ble_eq_true rfl⟩, Nat.le_of_ble_eq_true rfl, Nat.le_of_ble_eq_true rfl⟩ dL_law_410) (fun H locs hP hS => ?_)
          refine lv_aload_n hx hb dL_law_413 rfl (lv_at hl 2 rfl) ?_
          refine lv_aload_n hx hb dL_law_414 rfl (lv_at hl 0 rfl) ?_
          refine lv_iload_n hx hb dL_law_415 rfl (lv_at hl 3 rfl) ?_
          refine lv_iconst (v := 1) hx hb dL_law_416 (by decide) ?_
          refine lv_iadd hx hb dL_law_417 ?_
          obtain ⟨v59, q, h⟩ := ho_bd h
          refine hw_xl hx hb hX hbl hbA hS q dL_law_418 ?_
          refine lv_aload_n hx hb dL_law_419 rfl (lv_at hl 0 rfl) ?_
          refine lv_iload_n hx hb dL_law_420 rfl (lv_at hl 3 rfl) ?_
          refine lv_iconst (v := 2) hx hb dL_law_421 (by decide) ?_
          refine lv_iadd hx hb dL_law_422 ?_
          obtain ⟨v60, q, h⟩ := ho_bd h
          refine hw_xl hx hb hX hbl hbA hS q dL_law_423 ?_
          obtain ⟨_, hs, h⟩ := ho_bd h
          obtain ⟨⟨v61, z⟩, q, h⟩ := ho_bd h
          refine hw_ci hS (hp_runV (As := [.int v59, .int v60]) (rest := [.int v58]) X hP hS hl.1 LX7 (ho_is_s hs) kL_65 ⟨m3_229, m3_230⟩ (c_X7_repeat l G fu w2 v59 v60 _ _ _ q) rfl (Nat.le_of_ble_eq_true rfl) ⟨⟨Nat.le_of_ble_eq_true rfl, Nat.le_of_ble_eq_true rfl⟩, Nat.le_of_ble_eq_true rfl, Nat.le_of_ble_eq_true rfl⟩ dL_law_424) (fun H locs hP hS => ?_)
          refine lv_icmp_eq (tgt := 689) hx hb dL_law_427 (by decide) (fun hc => ?_) (fun hc => ?_)
          · replace h := ho_ip hc h
            refine W.widen (k := 600000) (n := 7302250) (Nat.le_of_ble_eq_true rfl) (Nat.le_of_ble_eq_true rfl) ?_
            exact B689 w1 w2 w3 z _ _ _ h hP hS (lv_sub hl [0, 1, 2, 3] rfl)
          · replace h := ho_in hc h
            refine lv_iconst (v := 0) hx hb dL_law_430 (by decide) ?_
            exact lx_ret hx hb hr hlocks hG hS h (Nat.le_of_ble_eq_true rfl) (Nat.le_of_ble_eq_true rfl) dL_law_431
        replace h := ho_in hc9 h
        by_cases hc10 : v6 = 10
        · replace h := ho_ip hc10 h
          refine lv_tableIn (tgt := 432) hx hb dL_law_42 (by rw [hc10]; decide) (by rw [hc10]; decide) (by rw [hc10]; rfl) (by decide) ?_
          refine lv_aload_n hx hb dL_law_432 rfl (lv_at hl 1 rfl) ?_
          refine lv_aload_n hx hb dL_law_433 rfl (lv_at hl 0 rfl) ?_
          refine lv_iload_n hx hb dL_law_434 rfl (lv_at hl 3 rfl) ?_
          refine lv_iconst (v := 1) hx hb dL_law_435 (by decide) ?_
          refine lv_iadd hx hb dL_law_436 ?_
          obtain ⟨v62, q, h⟩ := ho_bd h
          refine hw_xl hx hb hX hbl hbA hS q dL_law_437 ?_
          refine lv_aload_n hx hb dL_law_438 rfl (lv_at hl 0 rfl) ?_
          refine lv_iload_n hx hb dL_law_439 rfl (lv_at hl 3 rfl) ?_
          refine lv_iconst (v := 2) hx hb dL_law_440 (by decide) ?_
          refine lv_iadd hx hb dL_law_441 ?_
          obtain ⟨v63, q, h⟩ := ho_bd h
          refine hw_xl hx hb hX hbl hbA hS q dL_law_442 ?_
          obtain ⟨_, hs, h⟩ := ho_bd h
          obtain ⟨⟨v64, z⟩, q, h⟩ := ho_bd h
          refine hw_ci hS (hp_runV (As := [.int v62, .int v63]) (rest := []) X hP hS hl.1 LX6 (ho_is_s hs) kL_66 ⟨m2_117, m2_118⟩ (c_X6_except l G fu w1 v62 v63 _ _ _ q) rfl (Nat.le_of_ble_eq_true rfl) ⟨⟨Nat.le_of_ble_eq_true rfl, Nat.le_of_ble_eq_true rfl⟩, Nat.le_of_ble_eq_true rfl, Nat.le_of_ble_eq_true rfl⟩ dL_law_443) (fun H locs hP hS => ?_)
          refine lv_aload_n hx hb dL_law_446 rfl (lv_at hl 2 rfl) ?_
          refine lv_aload_n hx hb dL_law_447 rfl (lv_at hl 0 rfl) ?_
          refine lv_iload_n hx hb dL_law_448 rfl (lv_at hl 3 rfl) ?_
          refine lv_iconst (v := 1) hx hb dL_law_449 (by decide) ?_
          refine lv_iadd hx hb dL_law_450 ?_
          obtain ⟨v65, q, h⟩ := ho_bd h
          refine hw_xl hx hb hX hbl hbA hS q dL_law_451 ?_
          refine lv_aload_n hx hb dL_law_452 rfl (lv_at hl 0 rfl) ?_
          refine lv_iload_n hx hb dL_law_453 rfl (lv_at hl 3 rfl) ?_
          refine lv_iconst (v := 2) hx hb dL_law_454 (by decide) ?_
          refine lv_iadd hx hb dL_law_455 ?_
          obtain ⟨v66, q, h⟩ := ho_bd h
          refine hw_xl hx hb hX hbl hbA hS q dL_law_456 ?_
          obtain ⟨_, hs, h⟩ := ho_bd h
          obtain ⟨⟨v67, z⟩, q, h⟩ := ho_bd h
          refine hw_ci hS (hp_runV (As := [.int v65, .int v66]) (rest := [.int v64]) X hP hS hl.1 LX7 (ho_is_s hs) kL_69 ⟨m3_233, m3_234⟩ (c_X7_except l G fu w2 v65 v66 _ _ _ q) rfl (Nat.le_of_ble_eq_true rfl) ⟨⟨Nat.le_of_ble_eq_true rfl, Nat.le_of_ble_eq_true rfl⟩, Nat.le_of_ble_eq_true rfl, Nat.le_of_ble_eq_true rfl⟩ dL_law_457) (fun H locs hP hS => ?_)
          refine lv_icmp_eq (tgt := 689) hx hb dL_law_460 (by decide) (fun hc => ?_) (fun hc => ?_)
          · replace h := ho_ip hc h
            refine W.widen (k := 600000) (n := 7302250) (Nat.le_of_ble_eq_true rfl) (Nat.le_of_ble_eq_true rfl) ?_
            exact B689 w1 w2 w3 z _ _ _ h hP hS (lv_sub hl [0, 1, 2, 3] rfl)
          · replace h := ho_in hc h
            refine lv_iconst (v := 0) hx hb dL_law_463 (by decide) ?_
            exact lx_ret hx hb hr hlocks hG hS h (Nat.le_of_ble_eq_true rfl) (Nat.le_of_ble_eq_true rfl) dL_law_464
        replace h := ho_in hc10 h
        by_cases hc11 : v6 = 11
        · replace h := ho_ip hc11 h
          refine lv_tableIn (tgt := 465) hx hb dL_law_42 (by rw [hc11]; decide) (by rw [hc11]; decide) (by rw [hc11]; rfl) (by decide) ?_
          refine lv_aload_n hx hb dL_law_465 rfl (lv_at hl 1 rfl) ?_
          obtain ⟨_, hs, h⟩ := ho_bd h
          obtain ⟨⟨v68, z⟩, q, h⟩ := ho_bd h
          refine hw_ci hS (hp_runV (As := []) (rest := []) X hP hS hl.1 LX6 (ho_is_s hs) kL_70 ⟨m2_125, m2_126⟩ (c_X6_judge l G fu w1 _ _ _ q) rfl (Nat.le_of_ble_eq_true rfl) ⟨⟨Nat.le_of_ble_eq_true rfl, Nat.le_of_ble_eq_true rfl⟩, Nat.le_of_ble_eq_true rfl, Nat.le_of_ble_eq_true rfl⟩ dL_law_466) (fun H locs hP hS => ?_)
          refine lv_aload_n hx hb dL_law_469 rfl (lv_at hl 2 rfl) ?_
          obtain ⟨_, hs, h⟩ := ho_bd h
          obtain ⟨⟨v69, z⟩, q, h⟩ := ho_bd h
          refine hw_ci hS (hp_runV (As := []) (rest := [.int v68]) X hP hS hl.1 LX7 (ho_is_s hs) kL_73 ⟨m4_1, m4_2⟩ (c_X7_judge l G fu w2 _ _ _ q) rfl (Nat.le_of_ble_eq_true rfl) ⟨⟨Nat.le_of_ble_eq_true rfl, Nat.le_of_ble_eq_true rfl⟩, Nat.le_of_ble_eq_true rfl, Nat.le_of_ble_eq_true rfl⟩ dL_law_470) (fun H locs hP hS => ?_)
          refine lv_icmp_eq (tgt := 689) hx hb dL_law_473 (by decide) (fun hc => ?_) (fun hc => ?_)
          · replace h := ho_ip hc h
            refine W.widen (k := 600000) (n := 7302250) (Nat.le_of_ble_eq_true rfl) (Nat.le_of_ble_eq_true rfl) ?_
            exact B689 w1 w2 w3 z _ _ _ h hP hS (lv_sub hl [0, 1, 2, 3] rfl)
          · replace h := ho_in hc h
            refine lv_iconst (v := 0) hx hb dL_law_476 (by decide) ?_
            exact lx_ret hx hb hr hlocks hG hS h (Nat.le_of_ble_eq_true rfl) (Nat.le_of_ble_eq_true rfl) dL_law_477
        replace h := ho_in hc11 h
        by_cases hc12 : v6 = 12
        · replace h := ho_ip hc12 h
          refine lv_tableIn (tgt := 478) hx hb dL_law_42 (by rw [hc12]; decide) (by rw [hc12]; decide) (by rw [hc12]; rfl) (by decide) ?_
          refine lv_aload_n hx hb dL_law_478 rfl (lv_at hl 1 rfl) ?_
          refine lv_aload_n hx hb dL_law_479 rfl (lv_at hl 0 rfl) ?_
          refine lv_iload_n hx hb dL_law_480 rfl (lv_at hl 3 rfl) ?_
          refine lv_iconst (v := 1) hx hb dL_law_481 (by decide) ?_
          refine lv_iadd hx hb dL_law_482 ?_
          obtain ⟨v70, q, h⟩ := ho_bd h
          refine hw_xl hx hb hX hbl hbA hS q dL_law_483 ?_
          refine lv_aload_n hx hb dL_law_484 rfl (lv_at hl 0 rfl) ?_
          refine lv_iload_n hx hb dL_law_485 rfl (lv_at hl 3 rfl) ?_
          refine lv_iconst (v := 2) hx hb dL_law_486 (by decide) ?_
          refine lv_iadd hx hb dL_law_487 ?_
          obtain ⟨v71, q, h⟩ := ho_bd h
          refine hw_xl hx hb hX hbl hbA hS q dL_law_488 ?_
          obtain ⟨_, hs, h⟩ := ho_bd h
          obtain ⟨⟨v72, z⟩, q, h⟩ := ho_bd h
          refine hw_ci hS (hp_runV (As := [.int v70, .int v71]) (rest := []) X hP hS hl.1 LX6 (ho_is_s hs) kL_74 ⟨m3_42, m3_43⟩ (c_X6_fault l G fu w1 v70 v71 _ _ _ q) rfl (Nat.le_of_ble_eq_true rfl) ⟨⟨Nat.le_of_ble_eq_true rfl, Nat.le_of_ble_eq_true rfl⟩, Nat.le_of_ble_eq_true rfl, Nat.le_of_ble_eq_true rfl⟩ dL_law_489) (fun H locs hP hS => ?_)
          refine lv_aload_n hx hb dL_law_492 rfl (lv_at hl 2 rfl) ?_
          refine lv_aload_n hx hb dL_law_493 rfl (lv_at hl 0 rfl) ?_
          refine lv_iload_n hx hb dL_law_494 rfl (lv_at hl 3 rfl) ?_
          refine lv_iconst (v := 1) hx hb dL_law_495 (by decide) ?_
          refine lv_iadd hx hb dL_law_496 ?_
          obtain ⟨v73, q, h⟩ := ho_bd h
          refine hw_xl hx hb hX hbl hbA hS q dL_law_497 ?_
          refine lv_aload_n hx hb dL_law_498 rfl (lv_at hl 0 rfl) ?_
          refine lv_iload_n hx hb dL_law_499 rfl (lv_at hl 3 rfl) ?_
          refine lv_iconst (v := 2) hx hb dL_law_500 (by decide) ?_
          refine lv_iadd hx hb dL_law_501 ?_
          obtain ⟨v74, q, h⟩ := ho_bd h
          refine hw_xl hx hb hX hbl hbA hS q dL_law_502 ?_
          obtain ⟨_, hs, h⟩ := ho_bd h
          obtain ⟨⟨v75, z⟩, q, h⟩ := ho_bd h
          refine hw_ci hS (hp_runV (As := [.int v73, .int v74]) (rest := [.int v72]) X hP hS hl.1 LX7 (ho_is_s hs) kL_77 ⟨m4_71, m4_72⟩ (c_X7_fault l G fu w2 v73 v74 _ _ _ q) rfl (Nat.le_of_ble_eq_true rfl) ⟨⟨Nat.le_of_ble_eq_true rfl, Nat.le_of_ble_eq_true rfl⟩, Nat.le_of_ble_eq_true rfl, Nat.le_of_ble_eq_true rfl⟩ dL_law_503) (fun H locs hP hS => ?_)
          refine lv_icmp_eq (tgt := 689) hx hb dL_law_506 (by decide) (fun hc => ?_) (fun hc => ?_)
          · replace h := ho_ip hc h
            refine W.widen (k := 600000) (n := 7302250) (Nat.le_of_ble_eq_true rfl) (Nat.le_of_ble_eq_true rfl) ?_
            exact B689 w1 w2 w3 z _ _ _ h hP hS (lv_sub hl [0, 1, 2, 3] rfl)
          · replace h := ho_in hc h
            refine lv_iconst (v := 0) hx hb dL_law_509 (by decide) ?_
            exact lx_ret hx hb hr hlocks hG hS h (Nat.le_of_ble_eq_true rfl) (Nat.le_of_ble_eq_true rfl) dL_law_510
        replace h := ho_in hc12 h
        by_cases hc13 : v6 = 13
        · replace h := ho_ip hc13 h
          refine lv_tableIn (tgt := 511) hx hb dL_law_42 (by rw [hc13]; decide) (by rw [hc13]; decide) (by rw [hc13]; rfl) (by decide) ?_
          refine lv_aload_n hx hb dL_law_511 rfl (lv_at hl 1 rfl) ?_
          refine lv_aload_n hx hb dL_law_512 rfl (lv_at hl 0 rfl) ?_
          refine lv_iload_n hx hb dL_law_513 rfl (lv_at hl 3 rfl) ?_
          refine lv_iconst (v := 1) hx hb dL_law_514 (by decide) ?_
          refine lv_iadd hx hb dL_law_515 ?_
          obtain ⟨v76, q, h⟩ := ho_bd h
          refine hw_xl hx hb hX hbl hbA hS q dL_law_516 ?_
          obtain ⟨_, hs, h⟩ := ho_bd h
          obtain ⟨⟨v77, z⟩, q, h⟩ := ho_bd h
          refine hw_ci hS (hp_runV (As := [.int v76]) (rest := []) X hP hS hl.1 LX6 (ho_is_s hs) kL_78 ⟨m3_57, m3_58⟩ (c_X6_count l G fu w1 v76 _ _ _ q) rfl (Nat.le_of_ble_eq_true rfl) ⟨⟨Nat.le_of_ble_eq_true rfl, Nat.le_of_ble_eq_true rfl⟩, Nat.le_of_ble_eq_true rfl, Nat.le_of_ble_eq_true rfl⟩ dL_law_517) (fun H locs hP hS => ?_)
          refine lv_aload_n hx hb dL_law_520 rfl (lv_at hl 2 rfl) ?_
          refine lv_aload_n hx hb dL_law_521 rfl (lv_at hl 0 rfl) ?_
          refine lv_iload_n hx hb dL_law_522 rfl (lv_at hl 3 rfl) ?_
          refine lv_iconst (v := 1) hx hb dL_law_523 (by decide) ?_
          refine lv_iadd hx hb dL_law_524 ?_
          obtain ⟨v78, q, h⟩ := ho_bd h
          refine hw_xl hx hb hX hbl hbA hS q dL_law_525 ?_
          obtain ⟨_, hs, h⟩ := ho_bd h
          obtain ⟨⟨v79, z⟩, q, h⟩ := ho_bd h
          refine hw_ci hS (hp_runV (As := [.int v78]) (rest := [.int v77]) X hP hS hl.1 LX7 (ho_is_s hs) kL_81 ⟨m4_75, m4_76⟩ (c_X7_count l G fu w2 v78 _ _ _ q) rfl (Nat.le_of_ble_eq_true rfl) ⟨⟨Nat.le_of_ble_eq_true rfl, Nat.le_of_ble_eq_true rfl⟩, Nat.le_of_ble_eq_true rfl, Nat.le_of_ble_eq_true rfl⟩ dL_law_526) (fun H locs hP hS => ?_)
          refine lv_icmp_eq (tgt := 689) hx hb dL_law_529 (by decide) (fun hc => ?_) (fun hc => ?_)
          · replace h := ho_ip hc h
            refine W.widen (k := 600000) (n := 7302250) (Nat.le_of_ble_eq_true rfl) (Nat.le_of_ble_eq_true rfl) ?_
            exact B689 w1 w2 w3 z _ _ _ h hP hS (lv_sub hl [0, 1, 2, 3] rfl)
          · replace h := ho_in hc h
            refine lv_iconst (v := 0) hx hb dL_law_532 (by decide) ?_
            exact lx_ret hx hb hr hlocks hG hS h (Nat.le_of_ble_eq_true rfl) (Nat.le_of_ble_eq_true rfl) dL_law_533
        replace h := ho_in hc13 h
        by_cases hc14 : v6 = 14
        · replace h := ho_ip hc14 h
          refine lv_tableIn (tgt := 534) hx hb dL_law_42 (by rw [hc14]; decide) (by rw [hc14]; decide) (by rw [hc14]; rfl) (by decide) ?_
          refine lv_aload_n hx hb dL_law_534 rfl (lv_at hl 1 rfl) ?_
          obtain ⟨_, hs, h⟩ := ho_bd h
          obtain ⟨⟨v80, z⟩, q, h⟩ := ho_bd h
          refine hw_ci hS (hp_runV (As := []) (rest := []) X hP hS hl.1 LX6 (ho_is_s hs) kL_82 ⟨m3_61, m3_62⟩ (c_X6_moments l G fu w1 _ _ _ q) rfl (Nat.le_of_ble_eq_true rfl) ⟨⟨Nat.le_of_ble_eq_true rfl, Nat.le_of_ble_eq_true rfl⟩, Nat.le_of_ble_eq_true rfl, Nat.le_of_ble_eq_true rfl⟩ dL_law_535) (fun H locs hP hS => ?_)
          refine lv_aload_n hx hb dL_law_538 rfl (lv_at hl 2 rfl) ?_
          obtain ⟨_, hs, h⟩ := ho_bd h
          obtain ⟨⟨v81, z⟩, q, h⟩ := ho_bd h
          refine hw_ci hS (hp_runV (As := []) (rest := [.int v80]) X hP hS hl.1 LX7 (ho_is_s hs) kL_85 ⟨m4_79, m4_80⟩ (c_X7_moments l G fu w2 _ _ _ q) rfl (Nat.le_of_ble_eq_true rfl) ⟨⟨Nat.le_of_ble_eq_true rfl, Nat.le_of_ble_eq_true rfl⟩, Nat.le_of_ble_eq_true rfl, Nat.le_of_ble_eq_true rfl⟩ dL_law_539) (fun H locs hP hS => ?_)
          refine lv_icmp_eq (tgt := 689) hx hb dL_law_542 (by decide) (fun hc => ?_) (fun hc => ?_)
          · replace h := ho_ip hc h
            refine W.widen (k := 600000) (n := 7302250) (Nat.le_of_ble_eq_true rfl) (Nat.le_of_ble_eq_true rfl) ?_
            exact B689 w1 w2 w3 z _ _ _ h hP hS (lv_sub hl [0, 1, 2, 3] rfl)
          · replace h := ho_in hc h
            refine lv_iconst (v := 0) hx hb dL_law_545 (by decide) ?_
            exact lx_ret hx hb hr hlocks hG hS h (Nat.le_of_ble_eq_true rfl) (Nat.le_of_ble_eq_true rfl) dL_law_546
        replace h := ho_in hc14 h
        by_cases hc15 : v6 = 15
        · replace h := ho_ip hc15 h
          refine lv_tableIn (tgt := 547) hx hb dL_law_42 (by rw [hc15]; decide) (by rw [hc15]; decide) (by rw [hc15]; rfl) (by decide) ?_
          refine lv_aload_n hx hb dL_law_547 rfl (lv_at hl 1 rfl) ?_
          refine lv_aload_n hx hb dL_law_548 rfl (lv_at hl 0 rfl) ?_
          refine lv_iload_n hx hb dL_law_549 rfl (lv_at hl 3 rfl) ?_
          refine lv_iconst (v := 1) hx hb dL_law_550 (by decide) ?_
          refine lv_iadd hx hb dL_law_551 ?_
          obtain ⟨v82, q, h⟩ := ho_bd h
          refine hw_xl hx hb hX hbl hbA hS q dL_law_552 ?_
          obtain ⟨_, hs, h⟩ := ho_bd h
          obtain ⟨⟨v83, z⟩, q, h⟩ := ho_bd h
          refine hw_ci hS (hp_runV (As := [.int v82]) (rest := []) X hP hS hl.1 LX6 (ho_is_s hs) kL_86 ⟨m3_65, m3_66⟩ (c_X6_time l G fu w1 v82 _ _ _ q) rfl (Nat.le_of_ble_eq_true rfl) ⟨⟨Nat.le_of_ble_eq_true rfl, Nat.le_of_ble_eq_true rfl⟩, Nat.le_of_ble_eq_true rfl, Nat.le_of_ble_eq_true rfl⟩ dL_law_553) (fun H locs hP hS => ?_)
          refine lv_aload_n hx hb dL_law_556 rfl (lv_at hl 2 rfl) ?_
          refine lv_aload_n hx hb dL_law_557 rfl (lv_at hl 0 rfl) ?_
          refine lv_iload_n hx hb dL_law_558 rfl (lv_at hl 3 rfl) ?_
          refine lv_iconst (v := 1) hx hb dL_law_559 (by decide) ?_
          refine lv_iadd hx hb dL_law_560 ?_
          obtain ⟨v84, q, h⟩ := ho_bd h
          refine hw_xl hx hb hX hbl hbA hS q dL_law_561 ?_
          obtain ⟨_, hs, h⟩ := ho_bd h
          obtain ⟨⟨v85, z⟩, q, h⟩ := ho_bd h
          refine hw_ci hS (hp_runV (As := [.int v84]) (rest := [.int v83]) X hP hS hl.1 LX7 (ho_is_s hs) kL_89 ⟨m4_83, m4_84⟩ (c_X7_time l G fu w2 v84 _ _ _ q) rfl (Nat.le_of_ble_eq_true rfl) ⟨⟨Nat.le_of_ble_eq_true rfl, Nat.le_of_ble_eq_true rfl⟩, Nat.le_of_ble_eq_true rfl, Nat.le_of_ble_eq_true rfl⟩ dL_law_562) (fun H locs hP hS => ?_)
          refine lv_icmp_eq (tgt := 689) hx hb dL_law_565 (by decide) (fun hc => ?_) (fun hc => ?_)
          · replace h := ho_ip hc h
            refine W.widen (k := 600000) (n := 7302250) (Nat.le_of_ble_eq_true rfl) (Nat.le_of_ble_eq_true rfl) ?_
            exact B689 w1 w2 w3 z _ _ _ h hP hS (lv_sub hl [0, 1, 2, 3] rfl)
          · replace h := ho_in hc h
            refine lv_iconst (v := 0) hx hb dL_law_568 (by decide) ?_
            exact lx_ret hx hb hr hlocks hG hS h (Nat.le_of_ble_eq_true rfl) (Nat.le_of_ble_eq_true rfl) dL_law_569
        replace h := ho_in hc15 h
        by_cases hc16 : v6 = 16
        · replace h := ho_ip hc16 h
          refine lv_tableIn (tgt := 570) hx hb dL_law_42 (by rw [hc16]; decide) (by rw [hc16]; decide) (by rw [hc16]; rfl) (by decide) ?_
          refine lv_aload_n hx hb dL_law_570 rfl (lv_at hl 1 rfl) ?_
          refine lv_aload_n hx hb dL_law_571 rfl (lv_at hl 0 rfl) ?_
          refine lv_iload_n hx hb dL_law_572 rfl (lv_at hl 3 rfl) ?_
          refine lv_iconst (v := 1) hx hb dL_law_573 (by decide) ?_
          refine lv_iadd hx hb dL_law_574 ?_
          obtain ⟨v86, q, h⟩ := ho_bd h
          refine hw_xl hx hb hX hbl hbA hS q dL_law_575 ?_
          refine lv_aload_n hx hb dL_law_576 rfl (lv_at hl 0 rfl) ?_
          refine lv_iload_n hx hb dL_law_577 rfl (lv_at hl 3 rfl) ?_
          refine lv_iconst (v := 2) hx hb dL_law_578 (by decide) ?_
          refine lv_iadd hx hb dL_law_579 ?_
          obtain ⟨v87, q, h⟩ := ho_bd h
          refine hw_xl hx hb hX hbl hbA hS q dL_law_580 ?_
          obtain ⟨_, hs, h⟩ := ho_bd h
          obtain ⟨⟨v88, z⟩, q, h⟩ := ho_bd h
          refine hw_ci hS (hp_runV (As := [.int v86, .int v87]) (rest := []) X hP hS hl.1 LX6 (ho_is_s hs) kL_90 ⟨m3_73, m3_74⟩ (c_X6_height l G fu w1 v86 v87 _ _ _ q) rfl (Nat.le_of_ble_eq_true rfl) ⟨⟨Nat.le_of_ble_eq_true rfl, Nat.le_of_ble_eq_true rfl⟩, Nat.le_of_ble_eq_true rfl, Nat.le_of_ble_eq_true rfl⟩ dL_law_581) (fun H locs hP hS => ?_)
          refine lv_aload_n hx hb dL_law_584 rfl (lv_at hl 2 rfl) ?_
          refine lv_aload_n hx hb dL_law_585 rfl (lv_at hl 0 rfl) ?_
          refine lv_iload_n hx hb dL_law_586 rfl (lv_at hl 3 rfl) ?_
          refine lv_iconst (v := 1) hx hb dL_law_587 (by decide) ?_
          refine lv_iadd hx hb dL_law_588 ?_
          obtain ⟨v89, q, h⟩ := ho_bd h
          refine hw_xl hx hb hX hbl hbA hS q dL_law_589 ?_
          refine lv_aload_n hx hb dL_law_590 rfl (lv_at hl 0 rfl) ?_
          refine lv_iload_n hx hb dL_law_591 rfl (lv_at hl 3 rfl) ?_
          refine lv_iconst (v := 2) hx hb dL_law_592 (by decide) ?_
          refine lv_iadd hx hb dL_law_593 ?_
          obtain ⟨v90, q, h⟩ := ho_bd h
          refine hw_xl hx hb hX hbl hbA hS q dL_law_594 ?_
          obtain ⟨_, hs, h⟩ := ho_bd h
          obtain ⟨⟨v91, z⟩, q, h⟩ := ho_bd h
          refine hw_ci hS (hp_runV (As := [.int v89, .int v90]) (rest := [.int v88]) X hP hS hl.1 LX7 (ho_is_s hs) kL_93 ⟨m4_87, m4_88⟩ (c_X7_height l G fu w2 v89 v90 _ _ _ q) rfl (Nat.le_of_ble_eq_true rfl) ⟨⟨Nat.le_of_ble_eq_true rfl, Nat.le_of_ble_eq_true rfl⟩, Nat.le_of_ble_eq_true rfl, Nat.le_of_ble_eq_true rfl⟩ dL_law_595) (fun H locs hP hS => ?_)
          refine lv_icmp_eq (tgt := 689) hx hb dL_law_598 (by decide) (fun hc => ?_) (fun hc => ?_)
          · replace h := ho_ip hc h
            refine W.widen (k := 600000) (n := 7302250) (Nat.le_of_ble_eq_true rfl) (Nat.le_of_ble_eq_true rfl) ?_
            exact B689 w1 w2 w3 z _ _ _ h hP hS (lv_sub hl [0, 1, 2, 3] rfl)
          · replace h := ho_in hc h
            refine lv_iconst (v := 0) hx hb dL_law_601 (by decide) ?_
            exact lx_ret hx hb hr hlocks hG hS h (Nat.le_of_ble_eq_true rfl) (Nat.le_of_ble_eq_true rfl) dL_law_602
        replace h := ho_in hc16 h
        by_cases hc17 : v6 = 17
        · replace h := ho_ip hc17 h
          refine lv_tableIn (tgt := 603) hx hb dL_law_42 (by rw [hc17]; decide) (by rw [hc17]; decide) (by rw [hc17]; rfl) (by decide) ?_
          refine lv_aload_n hx hb dL_law_603 rfl (lv_at hl 1 rfl) ?_
          refine lv_aload_n hx hb dL_law_604 rfl (lv_at hl 0 rfl) ?_
          refine lv_iload_n hx hb dL_law_605 rfl (lv_at hl 3 rfl) ?_
          refine lv_iconst (v := 1) hx hb dL_law_606 (by decide) ?_
          refine lv_iadd hx hb dL_law_607 ?_
          obtain ⟨v92, q, h⟩ := ho_bd h
          refine hw_xl hx hb hX hbl hbA hS q dL_law_608 ?_
          refine lv_aload_n hx hb dL_law_609 rfl (lv_at hl 0 rfl) ?_
          refine lv_iload_n hx hb dL_law_610 rfl (lv_at hl 3 rfl) ?_
          refine lv_iconst (v := 2) hx hb dL_law_611 (by decide) ?_
          refine lv_iadd hx hb dL_law_612 ?_
          obtain ⟨v93, q, h⟩ := ho_bd h
          refine hw_xl hx hb hX hbl hbA hS q dL_law_613 ?_
          refine lv_aload_n hx hb dL_law_614 rfl (lv_at hl 0 rfl) ?_
          refine lv_iload_n hx hb dL_law_615 rfl (lv_at hl 3 rfl) ?_
          refine lv_iconst (v := 3) hx hb dL_law_616 (by decide) ?_
          refine lv_iadd hx hb dL_law_617 ?_
          obtain ⟨v94, q, h⟩ := ho_bd h
          refine hw_xl hx hb hX hbl hbA hS q dL_law_618 ?_
          obtain ⟨_, hs, h⟩ := ho_bd h
          obtain ⟨⟨v95, z⟩, q, h⟩ := ho_bd h
          refine hw_ci hS (hp_runV (As := [.int v92, .int v93, .int v94]) (rest := []) X hP hS hl.1 LX6 (ho_is_s hs) kL_94 ⟨m3_78, m3_79⟩ (c_X6_interval l G fu w1 v92 v93 v94 _ _ _ q) rfl (Nat.le_of_ble_eq_true rfl) ⟨⟨Nat.le_of_ble_eq_true rfl, Nat.le_of_ble_eq_true rfl⟩, Nat.le_of_ble_eq_true rfl, Nat.le_of_ble_eq_true rfl⟩ dL_law_619) (fun H locs hP hS => ?_)
          refine lv_aload_n hx hb dL_law_622 rfl (lv_at hl 2 rfl) ?_
          refine lv_aload_n hx hb dL_law_623 rfl (lv_at hl 0 rfl) ?_
          refine lv_iload_n hx hb dL_law_624 rfl (lv_at hl 3 rfl) ?_
          refine lv_iconst (v := 1) hx hb dL_law_625 (by decide) ?_
          refine lv_iadd hx hb dL_law_626 ?_
          obtain ⟨v96, q, h⟩ := ho_bd h
          refine hw_xl hx hb hX hbl hbA hS q dL_law_627 ?_
          refine lv_aload_n hx hb dL_law_628 rfl (lv_at hl 0 rfl) ?_
          refine lv_iload_n hx hb dL_law_629 rfl (lv_at hl 3 rfl) ?_
          refine lv_iconst (v := 2) hx hb dL_law_630 (by decide) ?_
          refine lv_iadd hx hb dL_law_631 ?_
          obtain ⟨v97, q, h⟩ := ho_bd h
          refine hw_xl hx hb hX hbl hbA hS q dL_law_632 ?_
          refine lv_aload_n hx hb dL_law_633 rfl (lv_at hl 0 rfl) ?_
          refine lv_iload_n hx hb dL_law_634 rfl (lv_at hl 3 rfl) ?_
          refine lv_iconst (v := 3) hx hb dL_law_635 (by decide) ?_
          refine lv_iadd hx hb dL_law_636 ?_
          obtain ⟨v98, q, h⟩ := ho_bd h
          refine hw_xl hx hb hX hbl hbA hS q dL_law_637 ?_
          obtain ⟨_, hs, h⟩ := ho_bd h
          obtain ⟨⟨v99, z⟩, q, h⟩ := ho_bd h
          refine hw_ci hS (hp_runV (As := [.int v96, .int v97, .int v98]) (rest := [.int v95]) X hP hS hl.1 LX7 (ho_is_s hs) kL_97 ⟨m4_91, m4_92⟩ (c_X7_interval l G fu w2 v96 v97 v98 _ _ _ q) rfl (Nat.le_of_ble_eq_true rfl) ⟨⟨Nat.le_of_ble_eq_true rfl, Nat.le_of_ble_eq_true rfl⟩, Nat.le_of_ble_eq_true rfl, Nat.le_of_ble_eq_true rfl⟩ dL_law_638) (fun H locs hP hS => ?_)
          refine lv_icmp_eq (tgt := 689) hx hb dL_law_641 (by decide) (fun hc => ?_) (fun hc => ?_)
          · replace h := ho_ip hc h
            refine W.widen (k := 600000) (n := 7302250) (Nat.le_of_ble_eq_true rfl) (Nat.le_of_ble_eq_true rfl) ?_
            exact B689 w1 w2 w3 z _ _ _ h hP hS (lv_sub hl [0, 1, 2, 3] rfl)
          · replace h := ho_in hc h
            refine lv_iconst (v := 0) hx hb dL_law_644 (by decide) ?_
            exact lx_ret hx hb hr hlocks hG hS h (Nat.le_of_ble_eq_true rfl) (Nat.le_of_ble_eq_true rfl) dL_law_645
        replace h := ho_in hc17 h
        by_cases hc18 : v6 = 18
        · replace h := ho_ip hc18 h
          refine lv_tableIn (tgt := 646) hx hb dL_law_42 (by rw [hc18]; decide) (by rw [hc18]; decide) (by rw [hc18]; rfl) (by decide) ?_
          refine lv_aload_n hx hb dL_law_646 rfl (lv_at hl 1 rfl) ?_
          refine lv_aload_n hx hb dL_law_647 rfl (lv_at hl 0 rfl) ?_
          refine lv_iload_n hx hb dL_law_648 rfl (lv_at hl 3 rfl) ?_
          refine lv_iconst (v := 1) hx hb dL_law_649 (by decide) ?_
          refine lv_iadd hx hb dL_law_650 ?_
          obtain ⟨v100, q, h⟩ := ho_bd h
          refine hw_xl hx hb hX hbl hbA hS q dL_law_651 ?_
          refine lv_aload_n hx hb dL_law_652 rfl (lv_at hl 0 rfl) ?_
          refine lv_iload_n hx hb dL_law_653 rfl (lv_at hl 3 rfl) ?_
          refine lv_iconst (v := 2) hx hb dL_law_654 (by decide) ?_
          refine lv_iadd hx hb dL_law_655 ?_
          obtain ⟨v101, q, h⟩ := ho_bd h
          refine hw_xl hx hb hX hbl hbA hS q dL_law_656 ?_
          refine lv_aload_n hx hb dL_law_657 rfl (lv_at hl 0 rfl) ?_
          refine lv_iload_n hx hb dL_law_658 rfl (lv_at hl 3 rfl) ?_
          refine lv_iconst (v := 3) hx hb dL_law_659 (by decide) ?_
          refine lv_iadd hx hb dL_law_660 ?_
          obtain ⟨v102, q, h⟩ := ho_bd h
          refine hw_xl hx hb hX hbl hbA hS q dL_law_661 ?_
          obtain ⟨_, hs, h⟩ := ho_bd h
          obtain ⟨⟨v103, z⟩, q, h⟩ := ho_bd h
          refine hw_ci hS (hp_runV (As := [.int v100, .int v101, .int v102]) (rest := []) X hP hS hl.1 LX6 (ho_is_s hs) kL_98 ⟨m3_83, m3_84⟩ (c_X6_event l G fu w1 v100 v101 v102 _ _ _ q) rfl (Nat.le_of_ble_eq_true rfl) ⟨⟨Nat.le_of_ble_eq_true rfl, Nat.le_of_ble_eq_true rfl⟩, Nat.le_of_ble_eq_true rfl, Nat.le_of_ble_eq_true rfl⟩ dL_law_662) (fun H locs hP hS => ?_)
          refine lv_aload_n hx hb dL_law_665 rfl (lv_at hl 2 rfl) ?_
          refine lv_aload_n hx hb dL_law_666 rfl (lv_at hl 0 rfl) ?_
          refine lv_iload_n hx hb dL_law_667 rfl (lv_at hl 3 rfl) ?_
          refine lv_iconst (v := 1) hx hb dL_law_668 (by decide) ?_
          refine lv_iadd hx hb dL_law_669 ?_
          obtain ⟨v104, q, h⟩ := ho_bd h
          refine hw_xl hx hb hX hbl hbA hS q dL_law_670 ?_
          refine lv_aload_n hx hb dL_law_671 rfl (lv_at hl 0 rfl) ?_
          refine lv_iload_n hx hb dL_law_672 rfl (lv_at hl 3 rfl) ?_
          refine lv_iconst (v := 2) hx hb dL_law_673 (by decide) ?_
          refine lv_iadd hx hb dL_law_674 ?_
          obtain ⟨v105, q, h⟩ := ho_bd h
          refine hw_xl hx hb hX hbl hbA hS q dL_law_675 ?_
          refine lv_aload_n hx hb dL_law_676 rfl (lv_at hl 0 rfl) ?_
          refine lv_iload_n hx hb dL_law_677 rfl (lv_at hl 3 rfl) ?_
          refine lv_iconst (v := 3) hx hb dL_law_678 (by decide) ?_
          refine lv_iadd hx hb dL_law_679 ?_
          obtain ⟨v106, q, h⟩ := ho_bd h
          refine hw_xl hx hb hX hbl hbA hS q dL_law_680 ?_
          obtain ⟨_, hs, h⟩ := ho_bd h
          obtain ⟨⟨v107, z⟩, q, h⟩ := ho_bd h
          refine hw_ci hS (hp_runV (As := [.int v104, .int v105, .int v106]) (rest := [.int v103]) X hP hS hl.1 LX7 (ho_is_s hs) kL_101 ⟨m4_95, m4_96⟩ (c_X7_event l G fu w2 v104 v105 v106 _ _ _ q) rfl (Nat.le_of_ble_eq_true rfl) ⟨⟨Nat.le_of_ble_eq_true rfl, Nat.le_of_ble_eq_true rfl⟩, Nat.le_of_ble_eq_true rfl, Nat.le_of_ble_eq_true rfl⟩ dL_law_681) (fun H locs hP hS => ?_)
          refine lv_icmp_eq (tgt := 689) hx hb dL_law_684 (by decide) (fun hc => ?_) (fun hc => ?_)
          · replace h := ho_ip hc h
            refine W.widen (k := 600000) (n := 7302250) (Nat.le_of_ble_eq_true rfl) (Nat.le_of_ble_eq_true rfl) ?_
            exact B689 w1 w2 w3 z _ _ _ h hP hS (lv_sub hl [0, 1, 2, 3] rfl)
          · replace h := ho_in hc h
            refine lv_iconst (v := 0) hx hb dL_law_687 (by decide) ?_
            exact lx_ret hx hb hr hlocks hG hS h (Nat.le_of_ble_eq_true rfl) (Nat.le_of_ble_eq_true rfl) dL_law_688
        replace h := ho_in hc18 h
        refine lv_tableOut (tgt := 689) hx hb dL_law_42 (by have u0 := ho_ne (n := 0) 0 rfl hc0; have u1 := ho_ne (n := 1) 1 rfl hc1; have u2 := ho_ne (n := 2) 2 rfl hc2; have u3 := ho_ne (n := 3) 3 rfl hc3; have u4 := ho_ne (n := 4) 4 rfl hc4; have u5 := ho_ne (n := 5) 5 rfl hc5; have u6 := ho_ne (n := 6) 6 rfl hc6; have u7 := ho_ne (n := 7) 7 rfl hc7; have u8 := ho_ne (n := 8) 8 rfl hc8; have u9 := ho_ne (n := 9) 9 rfl hc9; have u10 := ho_ne (n := 10) 10 rfl hc10; have u11 := ho_ne (n := 11) 11 rfl hc11; have u12 := ho_ne (n := 12) 12 rfl hc12; have u13 := ho_ne (n := 13) 13 rfl hc13; have u14 := ho_ne (n := 14) 14 rfl hc14; have u15 := ho_ne (n := 15) 15 rfl hc15; have u16 := ho_ne (n := 16) 16 rfl hc16; have u17 := ho_ne (n := 17) 17 rfl hc17; have u18 := ho_ne (n := 18) 18 rfl hc18; omega) (by decide) ?_
        refine W.widen (k := 600000) (n := 7302250) (Nat.le_of_ble_eq_true rfl) (Nat.le_of_ble_eq_true rfl) ?_
        exact B689 w1 w2 w3 z _ _ _ h hP hS (lv_sub hl [0, 1, 2, 3] rfl)
  unfold f_L_law at h
  obtain ⟨⟨r1, z⟩, q, h⟩ := ho_bd h
  refine hw_nw X hP hS LX6 ⟨m1_13, m1_14, m1_1⟩ (by decide) (Nat.le_of_ble_eq_true rfl) (Nat.le_of_ble_eq_true rfl) q dL_law_0 (fun H hP hS => ?_)
  refine lv_dup hx hb dL_law_3 rfl ?_
  refine lv_aload_n hx hb dL_law_4 rfl (lv_at hl 0 rfl) ?_
  refine lv_iconst (v := 0) hx hb dL_law_5 (by decide) ?_
  obtain ⟨v2, q, h⟩ := ho_bd h
  refine lx_cell (rest := [.ref r1, .ref r1]) X hP hS hl.1 hL hX hbA (Nat.le_of_ble_eq_true rfl) dL_law_6 (fun H locs hP hS => ?_)
  refine hw_id q ?_
  obtain ⟨z, q, h⟩ := ho_bd h
  refine hw_cv hS (hp_runI (As := [.int v2]) (rest := [.ref r1]) X hP hS hl.1 kL_15 m1_16 rfl (c_X6_init l G fu r1 v2 _ _ q) rfl (Nat.le_of_ble_eq_true rfl) ⟨⟨Nat.le_of_ble_eq_true rfl, Nat.le_of_ble_eq_true rfl⟩, Nat.le_of_ble_eq_true rfl, Nat.le_of_ble_eq_true rfl⟩ dL_law_9) (fun H locs hP hS => ?_)
  refine lv_astore_n (lv' := [(1, .ref r1), (0, .ref b)]) hx hb dL_law_12 rfl hl (by decide) rfl (fun ls hl => ?_)
  obtain ⟨⟨r3, z⟩, q, h⟩ := ho_bd h
  refine hw_nw X hP hS LX7 ⟨m3_90, m3_91, m1_9⟩ (by decide) (Nat.le_of_ble_eq_true rfl) (Nat.le_of_ble_eq_true rfl) q dL_law_13 (fun H hP hS => ?_)
  refine lv_dup hx hb dL_law_16 rfl ?_
  refine lv_aload_n hx hb dL_law_17 rfl (lv_at hl 1 rfl) ?_
  refine lv_iconst (v := 0) hx hb dL_law_18 (by decide) ?_
  obtain ⟨v4, q, h⟩ := ho_bd h
  refine lx_cell (rest := [.ref r3, .ref r3]) X hP hS hl.1 hL hX hbA (Nat.le_of_ble_eq_true rfl) dL_law_19 (fun H locs hP hS => ?_)
  refine hw_id q ?_
  obtain ⟨z, q, h⟩ := ho_bd h
  refine hw_cv hS (hp_runI (As := [.int v4]) (rest := [.ref r3]) X hP hS hl.1 kL_20 m3_93 rfl (c_X7_init l G fu r3 v4 _ _ q) rfl (Nat.le_of_ble_eq_true rfl) ⟨⟨Nat.le_of_ble_eq_true rfl, Nat.le_of_ble_eq_true rfl⟩, Nat.le_of_ble_eq_true rfl, Nat.le_of_ble_eq_true rfl⟩ dL_law_22) (fun H locs hP hS => ?_)
  refine lv_astore_n (lv' := [(2, .ref r3), (1, .ref r1), (0, .ref b)]) hx hb dL_law_25 rfl hl (by decide) rfl (fun ls hl => ?_)
  refine lv_iconst (v := 1) hx hb dL_law_26 (by decide) ?_
  refine lv_istore_n (lv' := [(3, .int 1), (2, .ref r3), (1, .ref r1), (0, .ref b)]) hx hb dL_law_27 rfl hl (by decide) rfl (fun ls hl => ?_)
  refine W.widen (k := 600000) (n := 7302250) (Nat.le_of_ble_eq_true rfl) (Nat.le_of_ble_eq_true rfl) ?_
  exact L28 fu r1 r3 1 z _ _ _ h hP hS (lv_sub hl [3, 2, 1, 0] rfl)
