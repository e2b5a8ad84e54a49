/-! CONTRACTS over the heap of numbers: from a world z a method comes to a world z1, with an answer -/
def hp_Qi (G : hp_G) (r : Int32) (z1 : hp_S) : Array Value → State → Outcome → State → Prop := va_Qi (S := Unit) (fun r' _ => r' = r) (fun _ t => hp_W G z1 t) (hp_A G)
def hp_Qv (G : hp_G) (z1 : hp_S) : Array Value → State → Outcome → State → Prop := va_Qv (S := Unit) (fun _ => True) (fun _ t => hp_W G z1 t) (hp_A G)
abbrev hp_rm (fr lo mc ms : Nat) : Room := { frames := fr, cells := mc, slots := ms, locals := lo }
abbrev hp_M (l : Launch) (G : hp_G) (y : MethodName) (cc : ByteArray) (nL : Nat) (ret : Option FieldType) (fr lo mc ms : Nat) (As : List Value) (z : hp_S) (Qc : Array Value → State → Outcome → State → Prop) : Prop :=
  Met l y [.code y cc nL ret] (hp_rm fr lo mc ms) (va_Pc As (hp_W G z)) Qc mc ms (hp_A G)
theorem hp_M.of {l : Launch} {G : hp_G} {y : MethodName} {cc : ByteArray} {nL : Nat} {ret : Option FieldType} {fr lo mc ms : Nat} {As : List Value} {z : hp_S} {Qc : Array Value → State → Outcome → State → Prop} (hy : plainName y.cls = true) (hAs : (lg_sl As).length ≤ nL)
    (body : ∀ (p : Program) (e : Env) (s : State) (m : MethodId) (below : List Frame) (meth : Method) (c : Code), hp_C G cc y.cls nL p s m c → meth.sig.returnType = ret → meth.locks = false → meth.name = y.name → hp_P G z s.heap → va_S (hp_A G) s.heap s.heap [] → ∀ ls : Array Slot, lv_has ls nL (lv_args 0 As) → W p l e (hp_rm fr lo mc ms) s m As.toArray below meth c s.heap [] 0 0 (MQ below Qc As.toArray s mc ms (hp_A G)) (F0 m 0 ls [])) : hp_M l G y cc nL ret fr lo mc ms As z Qc := by
  refine Met.ofW (cc := cc) (maxL := nL) (ret := ret) hy rfl ?_
  intro p e s m args below meth c s₁ B hml hv
  obtain ⟨rfl, hwd, hK, hP, hT⟩ := hv
  rw [lg_entry_eq]
  exact body p e s m below meth c ⟨B.exec, B.bytes, findClass_of_methodNamed B.named, hml, hwd, hK, hT⟩ B.returns B.notSynchronized (name_of_methodNamed B.named B.method).1 hP va_S.rf _ (lv_entry As hAs)
section HC
variable {p : Program} {l : Launch} {e : Env} {R : Room} {s : State} {m : MethodId} {args : Array Value} {below : List Frame} {meth : Method} {c : Code} {H : Heap} {locs : List Loc} {cells slots : Nat} {Q : State → Prop}
variable {cc : ByteArray} {pc : Nat} {ls : Array Slot} {rest : List Value} {G : hp_G} {z z1 : hp_S} {own C : String} {nL a ci index N : Nat} {T : u_T} {ty : Nat → FieldType} {H0 : Heap}
theorem hw_iret (X : hp_C G cc own nL p s m c) (hP : hp_P G z H) (hS : va_S (hp_A G) s.heap H locs) (hr : meth.sig.returnType = some .int) (hlocks : meth.locks = false) {v r : Int32} (h : some (v, z) = some (r, z1)) (hdg : decode cc pc = .ok (.ireturn, 1)) : W p l e R s m args below meth c H locs cells slots (MQ below (hp_Qi G r z1) args s cells slots (hp_A G)) (F0 m pc ls [.int v]) := by
  cases h
  exact W.iret X.1 X.2.1 hr (fun t ht hW => ⟨⟨v, (), rfl, rfl, hp_W.at X hP hS ht hW⟩, hS.F ht⟩) hS.2.2 hdg hlocks
theorem hw_zret (X : hp_C G cc own nL p s m c) (hP : hp_P G z H) (hS : va_S (hp_A G) s.heap H locs) (hr : meth.sig.returnType = some .boolean) (hlocks : meth.locks = false) {v r : Int32} (h : (if vp_nar .boolean v = v then some (v, z) else none) = some (r, z1)) (hdg : decode cc pc = .ok (.ireturn, 1)) : W p l e R s m args below meth c H locs cells slots (MQ below (hp_Qi G r z1) args s cells slots (hp_A G)) (F0 m pc ls [.int v]) := by
  split at h
  · rename_i hc
    cases h
    exact W.zret X.1 X.2.1 hr (by rw [hp_nz, hc]) (fun t ht hW => ⟨⟨v, (), rfl, rfl, hp_W.at X hP hS ht hW⟩, hS.F ht⟩) hS.2.2 hdg hlocks
  · cases h
theorem hw_vret (X : hp_C G cc own nL p s m c) (hP : hp_P G z H) (hS : va_S (hp_A G) s.heap H locs) (hr : meth.sig.returnType = none) (hlocks : meth.locks = false) (h : some z = some z1) (hdg : decode cc pc = .ok (.return_, 1)) : W p l e R s m args below meth c H locs cells slots (MQ below (hp_Qv G z1) args s cells slots (hp_A G)) (F0 m pc ls []) := by
  cases h
  exact W.vret X.1 X.2.1 hr (fun t ht hW => ⟨⟨(), rfl, trivial, hp_W.at X hP hS ht hW⟩, hS.F ht⟩) hS.2.2 hdg hlocks
/-- what a call of an own method rests on in the tables -/
def hp_kB (own : String) (index : Nat) (y : MethodName) (bs : ByteArray) (mL : Nat) (ret : Option FieldType) (n : Nat) : Prop :=
  (Cond.code y bs mL ret ∈ h_tb ∧ Cond.initialized y.cls ∈ h_tb ∧ (Cond.methodLink own index y ∈ h_tb ∨ ∃ host : String, Cond.methodLinkNest own index y host ∈ h_tb)) ∧ y.cls ≠ "java/lang/invoke/MethodHandle" ∧ y.cls ≠ "java/lang/invoke/VarHandle" ∧ (parseMethodDescriptor y.desc).map (fun d => d.parameters.length) = some n
theorem hp_cB {y : MethodName} {bs : ByteArray} {mL fr lo mc ms n : Nat} {ret : Option FieldType} (hwd : hp_wd s) (k : hp_kB own index y bs mL ret n) (hl : Cond.methodLink own index y ∈ h_tb) (hR : fr + 1 ≤ R.frames ∧ 8 + (mL + 11) + lo ≤ R.locals) : CallB R s args own index y bs mL ret [.code y bs mL ret] (hp_rm fr lo mc ms) mc ms n := by
  obtain ⟨⟨k1, k2, -⟩, k4, k5, k6⟩ := k
  refine ⟨rfl, rfl, hR.1, hR.2, fun w hw a' U hW => ?_, List.mem_cons_self, hp_use hwd k1 args, hp_use hwd k2 args, ⟨k4, k5⟩, fun sig h => ?_, hp_use hwd hl args⟩
  · rw [List.mem_singleton.mp hw]
    exact hp_word (h_tb_ok _ k1) hW (hwd _ k1)
  · rw [h] at k6
    exact (Option.some.inj k6).symm
theorem hp_cN {y : MethodName} {bs : ByteArray} {mL fr lo mc ms n : Nat} {ret : Option FieldType} {host : String} (hwd : hp_wd s) (k : hp_kB own index y bs mL ret n) (hl : Cond.methodLinkNest own index y host ∈ h_tb) (hR : fr + 1 ≤ R.frames ∧ 8 + (mL + 11) + lo ≤ R.locals) : va_CN R s args own index y host bs mL ret [.code y bs mL ret] (hp_rm fr lo mc ms) mc ms n := by
  obtain ⟨⟨k1, k2, -⟩, k4, k5, k6⟩ := k
  refine ⟨⟨rfl, rfl, hR.1, hR.2, fun w hw a' U hW => ?_, List.mem_cons_self⟩, hp_use hwd k1 args, hp_use hwd k2 args, ⟨k4, k5⟩, fun sig h => ?_, hp_use hwd hl args⟩
  · rw [List.mem_singleton.mp hw]
    exact hp_word (h_tb_ok _ k1) hW (hwd _ k1)
  · rw [h] at k6
    exact (Option.some.inj k6).symm
variable {y : MethodName} {bs : ByteArray} {mL fr lo mc ms n : Nat} {ret : Option FieldType} {As : List Value} {Qc : Array Value → State → Outcome → State → Prop}
theorem hp_runV (X : hp_C G cc own nL p s m c) (hP : hp_P G z H) (hS : va_S (hp_A G) s.heap H locs) (hls : ls.size = nL) (L : hp_L ci C T N ty) (hs : (z.1 a).1 = ci + 3) (k : hp_kB own index y bs mL ret n) (k2 : Cond.instanceMethod y ∈ h_tb ∧ Cond.selects C y y ∈ h_tb) (hM : hp_M l G y bs mL ret fr lo mc ms (.ref a :: As) z Qc) (hn : As.length = n) (hrest : (rest.map fun v => v.category).sum ≤ 8) (hR : (fr + 1 ≤ R.frames ∧ 8 + (mL + 11) + lo ≤ R.locals) ∧ cells + mc ≤ R.cells ∧ slots + ms ≤ R.slots) (hdg : decode cc pc = .ok (.invokevirtual index, 3)) :
    va_Run p l e R s m args below meth c H locs cells slots mc ms (F0 m pc ls (As.reverse ++ .ref a :: rest)) rest (Qc (Value.ref a :: As).toArray) (hp_A G) := by
  obtain ⟨hx, hb, hown, hml, hwd, hK, hT⟩ := id X
  obtain ⟨cell, q1, q2, q3, -, -⟩ := hP.obj L hs
  have hpre : PreV s H C a (va_Pc (.ref a :: As) (hp_W G z)) As := ⟨hp_blind, ⟨cell, q1, by rw [q3]; rfl, by rw [q2]; exact (hK.1 ci _ L.1).2.1⟩, fun U hU hW => ⟨rfl, hp_W.at X hP hS hU hW⟩⟩
  have hts : ∀ w ∈ h_tb, w.before args s = true := fun w h => hp_use hwd h args
  rcases k.1.2.2 with hl | ⟨host, hl⟩
  · exact va_runV (Ts := h_tb) ⟨hx, hb, hml, hown, hts⟩ hM ⟨hp_cB hwd k hl hR.1, hts _ k2.1, hts _ k2.2⟩ hpre rfl hn hls rfl (lv_room hrest) hdg hR.2
  · exact va_runVN (Ts := h_tb) ⟨hx, hb, hml, hown, hts⟩ hM ⟨hp_cN hwd k hl hR.1, hts _ k2.1, hts _ k2.2⟩ hpre rfl hn hls rfl (lv_room hrest) hdg hR.2
theorem hp_runS (X : hp_C G cc own nL p s m c) (hP : hp_P G z H) (hS : va_S (hp_A G) s.heap H locs) (hls : ls.size = nL) (k : hp_kB own index y bs mL ret n) (k2 : Cond.static y ∈ h_tb) (hM : hp_M l G y bs mL ret fr lo mc ms As z Qc) (hn : As.length = n) (hrest : (rest.map fun v => v.category).sum ≤ 8) (hR : (fr + 1 ≤ R.frames ∧ 8 + (mL + 11) + lo ≤ R.locals) ∧ cells + mc ≤ R.cells ∧ slots + ms ≤ R.slots) (hdg : decode cc pc = .ok (.invokestatic index, 3)) :
    va_Run p l e R s m args below meth c H locs cells slots mc ms (F0 m pc ls (As.reverse ++ rest)) rest (Qc As.toArray) (hp_A G) := by
  obtain ⟨hx, hb, hown, hml, hwd, hK, hT⟩ := id X
  have hpre : PreS s H (va_Pc As (hp_W G z)) As := ⟨hp_blind, fun U hU hW => ⟨rfl, hp_W.at X hP hS hU hW⟩⟩
  have hts : ∀ w ∈ h_tb, w.before args s = true := fun w h => hp_use hwd h args
  rcases k.1.2.2 with hl | ⟨host, hl⟩
  · exact va_runS (Ts := h_tb) ⟨hx, hb, hml, hown, hts⟩ hM ⟨hp_cB hwd k hl hR.1, hts _ k2⟩ hpre rfl hn hls rfl (lv_room hrest) hdg hR.2
  · exact va_runSN (Ts := h_tb) ⟨hx, hb, hml, hown, hts⟩ hM ⟨hp_cN hwd k hl hR.1, hts _ k2, trivial⟩ hpre rfl hn hls rfl (lv_room hrest) hdg hR.2
theorem hp_runI (X : hp_C G cc own nL p s m c) (hP : hp_P G z H) (hS : va_S (hp_A G) s.heap H locs) (hls : ls.size = nL) (k : hp_kB own index y bs mL none n) (k2 : Cond.instanceMethod y ∈ h_tb) (hy1 : y.name = "<init>") (hM : hp_M l G y bs mL none fr lo mc ms (.ref a :: As) z Qc) (hn : As.length = n) (hrest : (rest.map fun v => v.category).sum ≤ 8) (hR : (fr + 1 ≤ R.frames ∧ 8 + (mL + 11) + lo ≤ R.locals) ∧ cells + mc ≤ R.cells ∧ slots + ms ≤ R.slots) (hdg : decode cc pc = .ok (.invokespecial index, 3)) :
    va_Run p l e R s m args below meth c H locs cells slots mc ms (F0 m pc ls (As.reverse ++ .ref a :: rest)) rest (Qc (Value.ref a :: As).toArray) (hp_A G) := by
  obtain ⟨hx, hb, hown, hml, hwd, hK, hT⟩ := id X
  have hpre : PreS s H (va_Pc (.ref a :: As) (hp_W G z)) (.ref a :: As) := ⟨hp_blind, fun U hU hW => ⟨rfl, hp_W.at X hP hS hU hW⟩⟩
  have hts : ∀ w ∈ h_tb, w.before args s = true := fun w h => hp_use hwd h args
  rcases k.1.2.2 with hl | ⟨host, hl⟩
  · exact va_runI (Ts := h_tb) ⟨hx, hb, hml, hown, hts⟩ hM ⟨hp_cB hwd k hl hR.1, hy1, hts _ k2⟩ hpre rfl hn hls rfl (lv_room hrest) hdg hR.2
  · exact va_runIN (Ts := h_tb) ⟨hx, hb, hml, hown, hts⟩ hM ⟨hp_cN hwd k hl hR.1, hy1, hts _ k2⟩ hpre rfl hn hls rfl (lv_room hrest) hdg hR.2
variable {st0 : List Value} {aa : Array Value}
/-- behind a call that answers an int -/
theorem hw_ci (hS : va_S (hp_A G) s.heap H locs) {r : Int32} (hr : va_Run p l e R s m args below meth c H locs cells slots mc ms (F0 m pc ls st0) rest (hp_Qi G r z1 aa) (hp_A G)) (kk : ∀ (H1 : Heap) (locs1 : List Loc), hp_P G z1 H1 → va_S (hp_A G) s.heap H1 locs1 → W p l e R s m args below meth c H1 locs1 (cells + mc) (slots + ms) Q (F0 m (pc + 3) ls (.int r :: rest))) : W p l e R s m args below meth c H locs cells slots Q (F0 m pc ls st0) := by
  refine va_calli (S := Unit) hr hS (fun q _ h => h) (fun q h => h) (fun r2 u t H1 locs1 ht hvm hw hB hz1 hk1 hS1 => ?_)
  subst hw
  subst ht
  exact kk _ _ hB.2.2.1 hS1
/-- behind a call that answers nothing -/
theorem hw_cv (hS : va_S (hp_A G) s.heap H locs) (hr : va_Run p l e R s m args below meth c H locs cells slots mc ms (F0 m pc ls st0) rest (hp_Qv G z1 aa) (hp_A G)) (kk : ∀ (H1 : Heap) (locs1 : List Loc), hp_P G z1 H1 → va_S (hp_A G) s.heap H1 locs1 → W p l e R s m args below meth c H1 locs1 (cells + mc) (slots + ms) Q (F0 m (pc + 3) ls rest)) : W p l e R s m args below meth c H locs cells slots Q (F0 m pc ls st0) := by
  refine va_callv (S := Unit) hr hS (fun q _ h => h) (fun q h => h) (fun u t H1 locs1 ht hvm hw hB hz1 hk1 hS1 => ?_)
  subst ht
  exact kk _ _ hB.2.2.1 hS1
/-- new cells -/
theorem hp_S.push {H1 : Heap} (hS : va_S (hp_A G) H0 H locs) (z1 : H1.size = H.size + 1) (o1 : ∀ q : Nat, q < H.size → H1[q]? = H[q]?) : va_S (hp_A G) H0 H1 locs := ⟨Nat.le_trans hS.1 (by omega), fun x h1 h2 => (o1 x (Nat.lt_of_lt_of_le h1 hS.1)).trans (hS.2.1 x h1 h2), hS.2.2⟩
theorem hw_new (X : hp_C G cc own nL p s m c) (hP : hp_P G z H) (hS : va_S (hp_A G) H0 H locs) (L : hp_L ci C T N ty) (k : Cond.classLink own index C ∈ h_tb ∧ Cond.instantiable C N ∈ h_tb ∧ Cond.initialized C ∈ h_tb) (hd : ∀ j, j < N → defaultValue (ty j) = vp_V (hp_fl (h_ft ci) 0 (fun _ => 0) (fun _ => none)) j) (hcells : cells + 1 ≤ R.cells) (hslots : slots + N ≤ R.slots) (hdg : decode cc pc = .ok (.new index, 3)) (kk : ∀ H1 : Heap, hp_P G (hp_nw z (ci + 3) 0) H1 → va_S (hp_A G) H0 H1 locs → W p l e R s m args below meth c H1 locs (cells + 1) (slots + N) Q (F0 m (pc + 3) ls (.ref z.2.2.2 :: rest))) : W p l e R s m args below meth c H locs cells slots Q (F0 m pc ls rest) := by
  obtain ⟨hx, hb, hown, hml, hwd, hK, hT⟩ := X
  have hKn := hK.1 ci _ L.1
  have hts : ∀ w ∈ h_tb, w.before args s = true := fun w h => hp_use hwd h args
  refine W.newcK hx hb hown (hts _ k.1) (hts _ k.2.1) (hts _ k.2.2) rfl hdg hcells hslots hKn.2.1 hP.2.1 fun H1 kC hkC e1 z1 o1 => ?_
  rw [← hP.2.1] at e1 z1 o1 ⊢
  have hP1 : hp_P G (hp_nw z (ci + 3) 0) H1 := hP.push z1 o1 (fun x hx => by
    have e0 : ((hp_nw z (ci + 3) 0).1 H.size).1 = ci + 3 := by rw [hP.2.1]; simp [hp_nw, va_up]
    rw [hp_E_obj e0 L.2.1] at hx
    cases hx
    refine ⟨_, L.1, (u_born ty hts L.2.2.1 hKn hkC e1 L.2.2.2.1).to (fun j hj => ?_)⟩
    rw [hd j hj]
    congr 2
    · rw [hP.2.1]; simp [hp_nw, va_up]
    · rw [hP.2.1]; simp [hp_nw, va_up])
  have t := kk H1 hP1 (hp_S.push hS z1 o1)
  rw [← hP.2.1] at t
  exact t
theorem hw_naI (X : hp_C G cc own nL p s m c) (hP : hp_P G z H) (hS : va_S (hp_A G) H0 H locs) (k : Cond.arrayClass .int ∈ h_tb) {v : Int32} {V : Nat} (hn : ¬ v < 0) (hN : v.toNatClampNeg = V) (hbytes : V * componentBytes .int ≤ 536870912) (hcells : cells + 1 ≤ R.cells) (hslots : slots + V ≤ R.slots) (hdg : decode cc pc = .ok (.newarray .int, 2)) (kk : ∀ H1 : Heap, hp_P G (hp_nw z 1 V) H1 → va_S (hp_A G) H0 H1 locs → W p l e R s m args below meth c H1 locs (cells + 1) (slots + V) Q (F0 m (pc + 2) ls (.ref z.2.2.2 :: rest))) : W p l e R s m args below meth c H locs cells slots Q (F0 m pc ls (.int v :: rest)) := by
  obtain ⟨hx, hb, hown, hml, hwd, hK, hT⟩ := X
  refine va_newaK (atype := .int) hx hb (hp_use hwd k args) rfl hdg rfl hn hN hbytes hcells hslots hP.2.1 fun H1 cA e1 z1 o1 hAr hNm => ?_
  have hcA : cA = G.2.1 1 := Option.some.inj (hNm.symm.trans (hK.2 0 _ rfl).2)
  subst hcA
  rw [← hP.2.1] at e1 z1 o1 ⊢
  have hP1 : hp_P G (hp_nw z 1 V) H1 := hP.push z1 o1 (fun x hx => by
    have e0 : ((hp_nw z 1 V).1 H.size).1 = 1 := by rw [hP.2.1]; simp [hp_nw, va_up]
    rw [hp_E_ai e0 (by decide) (by decide)] at hx
    cases hx
    show H1[H.size]? = some (vp_cell _ _)
    rw [e1, vp_cell_i, hP.2.1]
    simp [hp_nw, va_up]
    rfl)
  have t := kk H1 hP1 (hp_S.push hS z1 o1)
  rw [← hP.2.1] at t
  exact t
theorem hw_naZ (X : hp_C G cc own nL p s m c) (hP : hp_P G z H) (hS : va_S (hp_A G) H0 H locs) (k : Cond.arrayClass .boolean ∈ h_tb) {v : Int32} {V : Nat} (hn : ¬ v < 0) (hN : v.toNatClampNeg = V) (hbytes : V * componentBytes .boolean ≤ 536870912) (hcells : cells + 1 ≤ R.cells) (hslots : slots + V ≤ R.slots) (hdg : decode cc pc = .ok (.newarray .boolean, 2)) (kk : ∀ H1 : Heap, hp_P G (hp_nw z 2 V) H1 → va_S (hp_A G) H0 H1 locs → W p l e R s m args below meth c H1 locs (cells + 1) (slots + V) Q (F0 m (pc + 2) ls (.ref z.2.2.2 :: rest))) : W p l e R s m args below meth c H locs cells slots Q (F0 m pc ls (.int v :: rest)) := by
  obtain ⟨hx, hb, hown, hml, hwd, hK, hT⟩ := X
  refine va_newaK (atype := .boolean) hx hb (hp_use hwd k args) rfl hdg rfl hn hN hbytes hcells hslots hP.2.1 fun H1 cA e1 z1 o1 hAr hNm => ?_
  have hcA : cA = G.2.1 2 := Option.some.inj (hNm.symm.trans (hK.2 1 _ rfl).2)
  subst hcA
  rw [← hP.2.1] at e1 z1 o1 ⊢
  have hP1 : hp_P G (hp_nw z 2 V) H1 := hP.push z1 o1 (fun x hx => by
    have e0 : ((hp_nw z 2 V).1 H.size).1 = 2 := by rw [hP.2.1]; simp [hp_nw, va_up]
    rw [hp_E_ai e0 (by decide) (by decide)] at hx
    cases hx
    show H1[H.size]? = some (vp_cell _ _)
    rw [e1, vp_cell_i, hP.2.1]
    simp [hp_nw, va_up]
    rfl)
  have t := kk H1 hP1 (hp_S.push hS z1 o1)
  rw [← hP.2.1] at t
  exact t
theorem hw_nr (X : hp_C G cc own nL p s m c) (hP : hp_P G z H) (hS : va_S (hp_A G) H0 H locs) {t0 : Nat} (ht : (h_tys G.2.1)[t0]? = some (G.2.1 (ci + 53), .object C)) (k : Cond.classLink own index C ∈ h_tb ∧ Cond.arrayOver (.object C) ∈ h_tb) {v : Int32} {V : Nat} (hn : ¬ v < 0) (hN : v.toNatClampNeg = V) (hbytes : V * 4 ≤ 536870912) (hcells : cells + 1 ≤ R.cells) (hslots : slots + V ≤ R.slots) (hdg : decode cc pc = .ok (.anewarray index, 3)) (kk : ∀ H1 : Heap, hp_P G (hp_nw z (ci + 53) V) H1 → va_S (hp_A G) H0 H1 locs → W p l e R s m args below meth c H1 locs (cells + 1) (slots + V) Q (F0 m (pc + 3) ls (.ref z.2.2.2 :: rest))) : W p l e R s m args below meth c H locs cells slots Q (F0 m pc ls (.int v :: rest)) := by
  obtain ⟨hx, hb, hown, hml, hwd, hK, hT⟩ := X
  subst hN
  refine W.anew hx hb hown (hp_use hwd k.1 args) (hp_use hwd k.2 args) rfl hdg rfl hn hbytes hcells hslots fun cA kA comp f1 f2 f3 f4 => ?_
  have hcA : cA = G.2.1 (ci + 53) := by
    obtain ⟨kA', comp', k1, k2, k3, k4⟩ := (hK.2 t0 _ ht).2
    exact Option.some.inj (f1.symm.trans k4)
  subst hcA
  generalize hH1 : H.push ({ cls := G.2.1 (ci + 53), slots := Array.replicate v.toNatClampNeg .null, vm := .none } : Cell) = H1
  have z1 : H1.size = H.size + 1 := by rw [← hH1, Array.size_push]
  have e1 : H1[H.size]? = some (arrV (G.2.1 (ci + 53)) v.toNatClampNeg (fun _ => .null)) := by rw [← hH1, Array.getElem?_push_size, ← arrV_new]
  have o1 : ∀ q : Nat, q < H.size → H1[q]? = H[q]? := fun q hq => by rw [← hH1, Array.getElem?_push, if_neg (Nat.ne_of_lt hq)]
  have hP1 : hp_P G (hp_nw z (ci + 53) v.toNatClampNeg) H1 := hP.push z1 o1 (fun x hx => by
    have e0 : ((hp_nw z (ci + 53) v.toNatClampNeg).1 H.size).1 = ci + 53 := by rw [hP.2.1]; simp [hp_nw, va_up]
    rw [hp_E_ar e0] at hx
    cases hx
    show H1[H.size]? = some (vp_cell _ _)
    rw [e1, vp_cell_q, hP.2.1]
    simp [hp_nw, va_up]
    rfl)
  have t := kk H1 hP1 (hp_S.push hS z1 o1)
  rw [← hP.2.1] at t
  exact t
end HC
