/-! THE ROWS: an instruction, a row, over the heap of numbers -/
theorem hp_word {w : Cond} (ok : hp_ok w = true) {a a' : Array Value} {s U : State} (hW : s.WarmedH U.vm) (h : w.before a s = true) : w.before a' U = true := by
  unfold hp_ok at ok
  split at ok
  · exact va_Nw.use rfl (va_Nw.warmF hW (va_Nw.of rfl h))
  · exact va_Nw.use rfl (va_Nw.warmM hW (va_Nw.of rfl h))
  · exact va_AO.use (va_AO.moved hW.alike (va_AO.of h))
  · exact word_at hW (good_of_word ok) h
theorem h_tb_ok : ∀ w ∈ h_tb, hp_ok w = true := fun _ h => (List.mem_filter.mp h).2
def hp_wd (U : State) : Prop := ∀ w ∈ h_tb, w.before #[] U = true
theorem hp_use {s : State} (h : hp_wd s) {w : Cond} (hw : w ∈ h_tb) (args : Array Value) : w.before args s = true := hp_word (h_tb_ok w hw) (State.WarmedH.refl s) (h w hw)
def hp_T (G : hp_G) (U : State) (H : Heap) : Prop := ∀ q ∈ h_st, va_Z q.1 q.2.1 "[I" (.ref (G.2.2.2 q.2.2.1)) (hp_A G) U H ∧ va_T .int (G.2.2.2 q.2.2.1) q.2.2.2.length (fun j => .int (q.2.2.2.getD j 0)) (hp_A G) U H
/-- the world of both programs -/
def hp_W (G : hp_G) (z : hp_S) (U : State) : Prop := hp_wd U ∧ va_K G.1 h_cl (h_tys G.2.1) U ∧ hp_P G z U.heap ∧ hp_T G U U.heap
/-- what a walk has at hand -/
def hp_C (G : hp_G) (cc : ByteArray) (own : String) (nL : Nat) (p : Program) (s : State) (m : MethodId) (c : Code) : Prop := p.tables.exec = Jvm.exec ∧ c.code = cc ∧ s.vm.findClass own = some m.cls ∧ c.maxLocals = nL ∧ hp_wd s ∧ va_K G.1 h_cl (h_tys G.2.1) s ∧ hp_T G s s.heap
theorem hp_T.to {G : hp_G} {s U : State} {H0 H : Heap} (h : hp_T G s H0) (hvm : s.vm.Alike U.vm) (hq : ∀ a : Nat, a < H0.size → ¬ hp_A G a → H[a]? = H0[a]?) : hp_T G U H := fun q hq' => ⟨((h q hq').1.kept hq).moved hvm, ((h q hq').2.kept hq).moved hvm⟩
theorem hp_W.at {G : hp_G} {z : hp_S} {cc : ByteArray} {own : String} {nL : Nat} {p : Program} {s U : State} {m : MethodId} {c : Code} {H : Heap} {locs : List Loc} (X : hp_C G cc own nL p s m c) (hP : hp_P G z H) (hS : va_S (hp_A G) s.heap H locs) (hU : U.heap = H) (hW : s.WarmedH U.vm) : hp_W G z U := by
  obtain ⟨-, -, -, -, hwd, hK, hT⟩ := X
  subst hU
  exact ⟨fun w hw => hp_word (h_tb_ok w hw) hW (hwd w hw), va_K.moved hW.alike hK, hP, hT.to hW.alike hS.2.1⟩
theorem hp_blind {G : hp_G} {z : hp_S} {av : List Value} : FrameBlind (va_Pc av (hp_W G z)) := by
  intro a U g mk q
  obtain ⟨q0, q1, q2, q3, q4⟩ := q
  exact ⟨q0, fun w hw => hp_word (s := U) (U := U.calling g mk a) (h_tb_ok w hw) (State.WarmedH.refl U) (q1 w hw), va_K.moved (u := U) (U := U.calling g mk a) (Vm.Alike.refl U.vm) q2, q3, hp_T.to (s := U) (U := U.calling g mk a) q4 (Vm.Alike.refl U.vm) (fun _ _ _ => rfl)⟩
theorem hp_one {D : va_G} {cl : List vw_C} {q : Nat × va_E} {H : Heap} (h : va_at D cl q H) : va_P D cl [q] H := by
  intro k x hk
  match k, hk with
  | 0, hk =>
    cases hk
    exact h
/-- a class's table -/
def hp_L (ci : Nat) (C : String) (T : u_T) (N : Nat) (ty : Nat → FieldType) : Prop := h_cl[ci]? = some (C, T, N) ∧ ci < 50 ∧ (∀ w ∈ u_ws C T N, w ∈ h_tb) ∧ (∀ k, k < N → parseFieldDescriptor (T k).2.2.1 = some (ty k)) ∧ (∀ a, a < N → ∀ b, b < N → a ≠ b → (T a).2.1 ≠ (T b).2.1)
theorem hp_P.obj {G : hp_G} {z : hp_S} {H : Heap} {a ci : Nat} {C : String} {T : u_T} {N : Nat} {ty : Nat → FieldType} (hP : hp_P G z H) (L : hp_L ci C T N ty) (hs : (z.1 a).1 = ci + 3) : ∃ cell : Cell, H[a]? = some cell ∧ cell.cls = G.1.1 ci ∧ cell.vm = .none ∧ (∀ k, k < N → cell.slots[G.1.2 ci k]? = some (vp_V (hp_fl (h_ft ci) 0 (z.2.1 a) (z.2.2.1 a)) k)) ∧ G.2.2.1 ≤ a := by
  obtain ⟨⟨r, h1, cell, q1, q2, q3, q4⟩, h5⟩ := hP.1 a _ (hp_E_obj hs L.2.1)
  have hr : r = (C, T, N) := Option.some.inj (h1.symm.trans L.1)
  subst hr
  exact ⟨cell, q1, q2, q3, q4, h5⟩
theorem hp_P.putI {G : hp_G} {z : hp_S} {H H' : Heap} {a ci k : Nat} {C : String} {T : u_T} {N : Nat} {ty : Nat → FieldType} {v : Int32} {cell : Cell} (hP : hp_P G z H) (L : hp_L ci C T N ty) (hs : (z.1 a).1 = ci + 3) (hap : ∀ x y, x < N → y < N → x ≠ y → G.1.2 ci x ≠ G.1.2 ci y) (hk : k < N) (hft : (h_ft ci)[k]? = some false) (q1 : H[a]? = some cell) (e1 : H'[a]? = some (cell.setSlot (G.1.2 ci k) (.int v))) (e2 : H'.size = H.size) (e3 : ∀ q : Nat, q ≠ a → H'[q]? = H[q]?) : hp_P G (hp_pI z a k v) H' := by
  obtain ⟨cell', q1', q2, q3, q4, q5⟩ := hP.obj L hs
  cases q1.symm.trans q1'
  refine hP.step e2 e3 rfl (fun b hb => hp_E_pI_ne hb) (fun x hx => ?_)
  have he : hp_E G (hp_pI z a k v) a = some (.inr (ci, hp_fl (h_ft ci) 0 (hp_set z.2.1 a k v a) (z.2.2.1 a))) := hp_E_obj (z := hp_pI z a k v) hs L.2.1
  rw [he] at hx
  cases hx
  refine ⟨⟨_, L.1, t_OB.to (V := updV (vp_V (hp_fl (h_ft ci) 0 (z.2.1 a) (z.2.2.1 a))) k (.int v)) ⟨_, e1, q2, q3, t_set q4 hap hk _⟩ (fun j _ => ?_)⟩, q5⟩
  rw [vp_updV_set (by rw [hp_fl_len]; exact (List.getElem?_eq_some_iff.mp hft).1), hp_fl_setI _ _ _ _ _ _ hft, Nat.zero_add, hp_set_eq]
theorem hp_P.putR {G : hp_G} {z : hp_S} {H H' : Heap} {a ci k : Nat} {C : String} {T : u_T} {N : Nat} {ty : Nat → FieldType} {v : Option Nat} {cell : Cell} (hP : hp_P G z H) (L : hp_L ci C T N ty) (hs : (z.1 a).1 = ci + 3) (hap : ∀ x y, x < N → y < N → x ≠ y → G.1.2 ci x ≠ G.1.2 ci y) (hk : k < N) (hft : (h_ft ci)[k]? = some true) (q1 : H[a]? = some cell) (e1 : H'[a]? = some (cell.setSlot (G.1.2 ci k) (va_rf v))) (e2 : H'.size = H.size) (e3 : ∀ q : Nat, q ≠ a → H'[q]? = H[q]?) : hp_P G (hp_pR z a k v) H' := by
  obtain ⟨cell', q1', q2, q3, q4, q5⟩ := hP.obj L hs
  cases q1.symm.trans q1'
  refine hP.step e2 e3 rfl (fun b hb => hp_E_pR_ne hb) (fun x hx => ?_)
  have he : hp_E G (hp_pR z a k v) a = some (.inr (ci, hp_fl (h_ft ci) 0 (z.2.1 a) (hp_set z.2.2.1 a k v a))) := hp_E_obj (z := hp_pR z a k v) hs L.2.1
  rw [he] at hx
  cases hx
  refine ⟨⟨_, L.1, t_OB.to (V := updV (vp_V (hp_fl (h_ft ci) 0 (z.2.1 a) (z.2.2.1 a))) k (va_rf v)) ⟨_, e1, q2, q3, t_set q4 hap hk _⟩ (fun j _ => ?_)⟩, q5⟩
  rw [vp_updV_set (by rw [hp_fl_len]; exact (List.getElem?_eq_some_iff.mp hft).1), hp_fl_setR _ _ _ _ _ _ hft, Nat.zero_add, hp_set_eq]
/-- the places of a field: its class, its slot, the link by which own names it -/
def hp_F (own : String) (index k : Nat) (T : u_T) (N : Nat) : Prop := k < N ∧ Cond.fieldLink own index (T k).1 (T k).2.1 (T k).2.2.1 ∈ h_tb
def hp_FN (own : String) (index k : Nat) (T : u_T) (N : Nat) : Prop := k < N ∧ ∃ host : String, Cond.fieldLinkNest own index (T k).1 (T k).2.1 (T k).2.2.1 host ∈ h_tb
section HW
variable {p : Program} {l : Launch} {e : Env} {R : Room} {s : State} {m : MethodId} {args : Array Value} {below : List Frame} {meth : Method} {c : Code} {H : Heap} {locs : List Loc} {cells slots : Nat} {Q : State → Prop}
variable {cc : ByteArray} {pc : Nat} {ls : Array Slot} {rest : List Value} {G : hp_G} {z z1 : hp_S} {own C : String} {nL a ci k index N : Nat} {T : u_T} {ty : Nat → FieldType} {H0 : Heap}
theorem hw_gi (X : hp_C G cc own nL p s m c) (hP : hp_P G z H) (L : hp_L ci C T N ty) (f : hp_F own index k T N) (hft : (h_ft ci)[k]? = some false) {v : Int32} (q : ho_gi ci a k z = some v) (hdg : decode cc pc = .ok (.getfield index, 3)) (kk : W p l e R s m args below meth c H locs cells slots Q (F0 m (pc + 3) ls (.int v :: rest))) : W p l e R s m args below meth c H locs cells slots Q (F0 m pc ls (.ref a :: rest)) := by
  obtain ⟨hx, hb, hown, hml, hwd, hK, hT⟩ := X
  unfold ho_gi at q
  split at q
  · rename_i hs
    cases q
    exact va_get (ws := [(a, .inr (ci, hp_fl (h_ft ci) 0 (z.2.1 a) (z.2.2.1 a)))]) (Ts := h_tb) hx hb (fun w h => hp_use hwd h args) L.2.2.1 hown hK (hp_one (hP.1 a _ (hp_E_obj hs L.2.1)).1) 0 rfl L.1 k f.1 (hp_use hwd f.2 args) (fun _ h => h) (by have t := hp_fl_I (h_ft ci) 0 k (z.2.1 a) (z.2.2.1 a) hft; rwa [Nat.zero_add] at t) hdg kk
  · cases q
theorem hw_giN (X : hp_C G cc own nL p s m c) (hP : hp_P G z H) (L : hp_L ci C T N ty) (f : hp_FN own index k T N) (hft : (h_ft ci)[k]? = some false) {v : Int32} (q : ho_gi ci a k z = some v) (hdg : decode cc pc = .ok (.getfield index, 3)) (kk : W p l e R s m args below meth c H locs cells slots Q (F0 m (pc + 3) ls (.int v :: rest))) : W p l e R s m args below meth c H locs cells slots Q (F0 m pc ls (.ref a :: rest)) := by
  obtain ⟨hx, hb, hown, hml, hwd, hK, hT⟩ := X
  obtain ⟨f1, host, f2⟩ := f
  unfold ho_gi at q
  split at q
  · rename_i hs
    cases q
    exact va_getN (ws := [(a, .inr (ci, hp_fl (h_ft ci) 0 (z.2.1 a) (z.2.2.1 a)))]) (Ts := h_tb) hx hb (fun w h => hp_use hwd h args) L.2.2.1 hown hK (hp_one (hP.1 a _ (hp_E_obj hs L.2.1)).1) 0 rfl L.1 k f1 (hp_use hwd f2 args) (fun _ h => h) (by have t := hp_fl_I (h_ft ci) 0 k (z.2.1 a) (z.2.2.1 a) hft; rwa [Nat.zero_add] at t) hdg kk
  · cases q
theorem hw_gr (X : hp_C G cc own nL p s m c) (hP : hp_P G z H) (L : hp_L ci C T N ty) (f : hp_F own index k T N) (hft : (h_ft ci)[k]? = some true) {v : Nat} (q : ho_gr ci a k z = some v) (hdg : decode cc pc = .ok (.getfield index, 3)) (kk : W p l e R s m args below meth c H locs cells slots Q (F0 m (pc + 3) ls (.ref v :: rest))) : W p l e R s m args below meth c H locs cells slots Q (F0 m pc ls (.ref a :: rest)) := by
  obtain ⟨hx, hb, hown, hml, hwd, hK, hT⟩ := X
  unfold ho_gr at q
  split at q
  · rename_i hs
    exact va_get (v := .ref v) (ws := [(a, .inr (ci, hp_fl (h_ft ci) 0 (z.2.1 a) (z.2.2.1 a)))]) (Ts := h_tb) hx hb (fun w h => hp_use hwd h args) L.2.2.1 hown hK (hp_one (hP.1 a _ (hp_E_obj hs L.2.1)).1) 0 rfl L.1 k f.1 (hp_use hwd f.2 args) (fun _ h => h) (by have t := hp_fl_R (h_ft ci) 0 k (z.2.1 a) (z.2.2.1 a) hft; rw [Nat.zero_add, q] at t; exact t) hdg kk
  · cases q
theorem hw_grN (X : hp_C G cc own nL p s m c) (hP : hp_P G z H) (L : hp_L ci C T N ty) (f : hp_FN own index k T N) (hft : (h_ft ci)[k]? = some true) {v : Nat} (q : ho_gr ci a k z = some v) (hdg : decode cc pc = .ok (.getfield index, 3)) (kk : W p l e R s m args below meth c H locs cells slots Q (F0 m (pc + 3) ls (.ref v :: rest))) : W p l e R s m args below meth c H locs cells slots Q (F0 m pc ls (.ref a :: rest)) := by
  obtain ⟨hx, hb, hown, hml, hwd, hK, hT⟩ := X
  obtain ⟨f1, host, f2⟩ := f
  unfold ho_gr at q
  split at q
  · rename_i hs
    exact va_getN (v := .ref v) (ws := [(a, .inr (ci, hp_fl (h_ft ci) 0 (z.2.1 a) (z.2.2.1 a)))]) (Ts := h_tb) hx hb (fun w h => hp_use hwd h args) L.2.2.1 hown hK (hp_one (hP.1 a _ (hp_E_obj hs L.2.1)).1) 0 rfl L.1 k f1 (hp_use hwd f2 args) (fun _ h => h) (by have t := hp_fl_R (h_ft ci) 0 k (z.2.1 a) (z.2.2.1 a) hft; rw [Nat.zero_add, q] at t; exact t) hdg kk
  · cases q
theorem hp_apart (hwd : hp_wd s) (hK : va_K G.1 h_cl (h_tys G.2.1) s) (L : hp_L ci C T N ty) : ∀ x y, x < N → y < N → x ≠ y → G.1.2 ci x ≠ G.1.2 ci y :=
  va_apart (own := C) (args := #[]) hwd L.2.2.1 ty L.2.2.2.1 L.2.2.2.2 hK L.1
theorem hw_pi (X : hp_C G cc own nL p s m c) (hP : hp_P G z H) (hS : va_S (hp_A G) H0 H locs) (L : hp_L ci C T N ty) (f : hp_F own index k T N) (hft : (h_ft ci)[k]? = some false) (hfin : (T k).2.2.2 = false) (hty : ty k = .int) {v : Int32} (q : ho_pi ci a k v z = some z1) (hdg : decode cc pc = .ok (.putfield index, 3)) (kk : ∀ (H1 : Heap) (locs1 : List Loc), hp_P G z1 H1 → va_S (hp_A G) H0 H1 locs1 → W p l e R s m args below meth c H1 locs1 cells slots Q (F0 m (pc + 3) ls rest)) : W p l e R s m args below meth c H locs cells slots Q (F0 m pc ls (.int v :: .ref a :: rest)) := by
  obtain ⟨hx, hb, hown, hml, hwd, hK, hT⟩ := X
  unfold ho_pi at q
  split at q
  · rename_i hs
    cases q
    have hap := hp_apart hwd hK L
    obtain ⟨cell, q1, q2, q3, q4, q5⟩ := hP.obj L hs
    obtain ⟨hSl, hfc, kC, hkC, hkind⟩ := hK.1 ci _ L.1
    obtain ⟨cf, kf, fi, fd, hi, hsl⟩ := hSl k f.1
    have hts : ∀ w ∈ h_tb, w.before args s = true := fun w h => hp_use hwd h args
    have hlay := hts _ (L.2.2.1 _ (u_in_lay f.1))
    unfold u_lay at hlay
    rw [if_neg (by rw [hfin]; decide)] at hlay
    have hst := (u_facts hfc hkC (u_lays hts L.2.2.1 f.1) hi).1
    have h6 := u_store hfc hkC hkind hlay hi (L.2.2.2.1 k f.1) (v := .int v) (by rw [hty]; rfl) (by rw [hty]; rfl)
    refine W.putK hx hb (f := fd) ⟨hown, hp_use hwd f.2 args, ⟨_, _, _, hi⟩, hst⟩ (by rw [q2]; exact h6) q1 q3 (by rw [hsl]; exact k2_hasslot (q4 k f.1)) rfl rfl hdg fun H' e1 e2 e3 => ?_
    rw [hsl] at e1 ⊢
    exact kk H' _ (hP.putI L hs hap f.1 hft q1 e1 e2 e3) (hS.put e2 e3 q5)
  · cases q
theorem hw_piN (X : hp_C G cc own nL p s m c) (hP : hp_P G z H) (hS : va_S (hp_A G) H0 H locs) (L : hp_L ci C T N ty) (f : hp_FN own index k T N) (hft : (h_ft ci)[k]? = some false) (hfin : (T k).2.2.2 = false) (hty : ty k = .int) {v : Int32} (q : ho_pi ci a k v z = some z1) (hdg : decode cc pc = .ok (.putfield index, 3)) (kk : ∀ (H1 : Heap) (locs1 : List Loc), hp_P G z1 H1 → va_S (hp_A G) H0 H1 locs1 → W p l e R s m args below meth c H1 locs1 cells slots Q (F0 m (pc + 3) ls rest)) : W p l e R s m args below meth c H locs cells slots Q (F0 m pc ls (.int v :: .ref a :: rest)) := by
  obtain ⟨hx, hb, hown, hml, hwd, hK, hT⟩ := X
  obtain ⟨f1, host, f2⟩ := f
  unfold ho_pi at q
  split at q
  · rename_i hs
    cases q
    have hap := hp_apart hwd hK L
    obtain ⟨cell, q1, q2, q3, q4, q5⟩ := hP.obj L hs
    obtain ⟨hSl, hfc, kC, hkC, hkind⟩ := hK.1 ci _ L.1
    obtain ⟨cf, kf, fi, fd, hi, hsl⟩ := hSl k f1
    have hts : ∀ w ∈ h_tb, w.before args s = true := fun w h => hp_use hwd h args
    have hlay := hts _ (L.2.2.1 _ (u_in_lay f1))
    unfold u_lay at hlay
    rw [if_neg (by rw [hfin]; decide)] at hlay
    have hst := (u_facts hfc hkC (u_lays hts L.2.2.1 f1) hi).1
    have h6 := u_store hfc hkC hkind hlay hi (L.2.2.2.1 k f1) (v := .int v) (by rw [hty]; rfl) (by rw [hty]; rfl)
    refine va_WputK hx hb (f := fd) hown (hp_use hwd f2 args) hi hst (by rw [q2]; exact h6) q1 q3 (by rw [hsl]; exact k2_hasslot (q4 k f1)) rfl rfl hdg fun H' e1 e2 e3 => ?_
    rw [hsl] at e1 ⊢
    exact kk H' _ (hP.putI L hs hap f1 hft q1 e1 e2 e3) (hS.put e2 e3 q5)
  · cases q
theorem hw_pr (X : hp_C G cc own nL p s m c) (hP : hp_P G z H) (hS : va_S (hp_A G) H0 H locs) (L : hp_L ci C T N ty) (f : hp_F own index k T N) (hft : (h_ft ci)[k]? = some true) (hfin : (T k).2.2.2 = false) {v : Nat} (hn : narrow (ty k) (.ref v) = .ref v) (hfit : fits (ty k) (.ref v) = true) (q : ho_pr ci a k v z = some z1) (hdg : decode cc pc = .ok (.putfield index, 3)) (kk : ∀ (H1 : Heap) (locs1 : List Loc), hp_P G z1 H1 → va_S (hp_A G) H0 H1 locs1 → W p l e R s m args below meth c H1 locs1 cells slots Q (F0 m (pc + 3) ls rest)) : W p l e R s m args below meth c H locs cells slots Q (F0 m pc ls (.ref v :: .ref a :: rest)) := by
  obtain ⟨hx, hb, hown, hml, hwd, hK, hT⟩ := X
  unfold ho_pr at q
  split at q
  · rename_i hs
    cases q
    have hap := hp_apart hwd hK L
    obtain ⟨cell, q1, q2, q3, q4, q5⟩ := hP.obj L hs
    obtain ⟨hSl, hfc, kC, hkC, hkind⟩ := hK.1 ci _ L.1
    obtain ⟨cf, kf, fi, fd, hi, hsl⟩ := hSl k f.1
    have hts : ∀ w ∈ h_tb, w.before args s = true := fun w h => hp_use hwd h args
    have hlay := hts _ (L.2.2.1 _ (u_in_lay f.1))
    unfold u_lay at hlay
    rw [if_neg (by rw [hfin]; decide)] at hlay
    have hst := (u_facts hfc hkC (u_lays hts L.2.2.1 f.1) hi).1
    have h6 := u_store hfc hkC hkind hlay hi (L.2.2.2.1 k f.1) hn hfit
    refine W.putK hx hb (f := fd) ⟨hown, hp_use hwd f.2 args, ⟨_, _, _, hi⟩, hst⟩ (by rw [q2]; exact h6) q1 q3 (by rw [hsl]; exact k2_hasslot (q4 k f.1)) rfl rfl hdg fun H' e1 e2 e3 => ?_
    rw [hsl] at e1 ⊢
    exact kk H' _ (hP.putR (v := some v) L hs hap f.1 hft q1 e1 e2 e3) (hS.put e2 e3 q5)
  · cases q
/-- a final field, in its class's constructor -/
theorem hw_prF (X : hp_C G cc own nL p s m c) (hP : hp_P G z H) (hS : va_S (hp_A G) H0 H locs) (L : hp_L ci C T N ty) (f : hp_F own index k T N) (hft : (h_ft ci)[k]? = some true) (hfin : (T k).2.2.2 = true) (hin2 : meth.name = "<init>") (hdecl : (T k).1 = own) {v : Nat} (hn : narrow (ty k) (.ref v) = .ref v) (hfit : fits (ty k) (.ref v) = true) (q : ho_pr ci a k v z = some z1) (hdg : decode cc pc = .ok (.putfield index, 3)) (kk : ∀ (H1 : Heap) (locs1 : List Loc), hp_P G z1 H1 → va_S (hp_A G) H0 H1 locs1 → W p l e R s m args below meth c H1 locs1 cells slots Q (F0 m (pc + 3) ls rest)) : W p l e R s m args below meth c H locs cells slots Q (F0 m pc ls (.ref v :: .ref a :: rest)) := by
  obtain ⟨hx, hb, hown, hml, hwd, hK, hT⟩ := X
  unfold ho_pr at q
  split at q
  · rename_i hs
    cases q
    have hap := hp_apart hwd hK L
    obtain ⟨cell, q1, q2, q3, q4, q5⟩ := hP.obj L hs
    obtain ⟨hSl, hfc, kC, hkC, hkind⟩ := hK.1 ci _ L.1
    obtain ⟨cf, kf, fi, fd, hi, hsl⟩ := hSl k f.1
    have hts : ∀ w ∈ h_tb, w.before args s = true := fun w h => hp_use hwd h args
    have hlay := hts _ (L.2.2.1 _ (u_in_lay f.1))
    unfold u_lay at hlay
    rw [if_pos hfin] at hlay
    have hst := (u_facts hfc hkC (u_lays hts L.2.2.1 f.1) hi).1
    have hcf : m.cls = cf := by
      obtain ⟨_, _, c', _, _, _, -, -, hf', -, -, -, hown2, -⟩ := Cond.laysFinal_spec hlay
      have e1 : c' = cf := by have := hi.symm.trans hf'; simp at this; exact this.1.symm
      rw [hdecl] at hown2
      rw [← e1]; exact Option.some.inj (hown.symm.trans hown2)
    have h6 := u_fits hfc hkC hkind (Or.inr hlay) hi (L.2.2.2.1 k f.1) hn hfit
    refine W.putFinK hx hb hown (hp_use hwd f.2 args) hi hst hcf hin2 (by rw [q2]; exact h6) q1 q3 (by rw [hsl]; exact k2_hasslot (q4 k f.1)) rfl rfl hdg fun H' e1 e2 e3 => ?_
    rw [hsl] at e1 ⊢
    exact kk H' _ (hP.putR (v := some v) L hs hap f.1 hft q1 e1 e2 e3) (hS.put e2 e3 q5)
  · cases q
theorem hp_nz (x : Int32) : narrow .boolean (.int x) = .int (vp_nar .boolean x) := rfl
theorem hp_P.arrI {H' : Heap} {kd i : Nat} {x : Int32} (hP : hp_P G z H) (hs : (z.1 a).1 = kd) (h0 : 0 < kd) (h3 : kd < 3) (e1 : H'[a]? = some ((vp_cell (G.2.1 kd) ((z.1 a).2, .inl (z.2.1 a))).setSlot i (.int x))) (e2 : H'.size = H.size) (e3 : ∀ q : Nat, q ≠ a → H'[q]? = H[q]?) : hp_P G (hp_pI z a i x) H' := by
  refine hP.step e2 e3 rfl (fun b hb => hp_E_pI_ne hb) (fun y hy => ?_)
  have he : hp_E G (hp_pI z a i x) a = some (.inl (G.2.1 kd, (z.1 a).2, .inl (hp_set z.2.1 a i x a))) := hp_E_ai (z := hp_pI z a i x) hs h0 h3
  rw [he] at hy
  cases hy
  refine ⟨?_, (hP.1 a _ (hp_E_ai hs h0 h3)).2⟩
  show H'[a]? = some (vp_cell _ _)
  rw [e1, vp_cell_i, vp_cell_i, arrV_store, hp_set_eq]
  congr 2
  funext q
  by_cases hq : q = i
  · subst hq
    simp [updV, va_up]
  · simp [updV, va_up, hq]
theorem hp_P.arrR {H' : Heap} {i : Nat} {x : Option Nat} (hP : hp_P G z H) (hs : (z.1 a).1 = ci + 53) (e1 : H'[a]? = some ((vp_cell (G.2.1 (ci + 53)) ((z.1 a).2, .inr (.inr (.inr (.inr (z.2.2.1 a)))))).setSlot i (va_rf x))) (e2 : H'.size = H.size) (e3 : ∀ q : Nat, q ≠ a → H'[q]? = H[q]?) : hp_P G (hp_pR z a i x) H' := by
  refine hP.step e2 e3 rfl (fun b hb => hp_E_pR_ne hb) (fun y hy => ?_)
  have he : hp_E G (hp_pR z a i x) a = some (.inl (G.2.1 (ci + 53), (z.1 a).2, .inr (.inr (.inr (.inr (hp_set z.2.2.1 a i x a)))))) := hp_E_ar (z := hp_pR z a i x) hs
  rw [he] at hy
  cases hy
  refine ⟨?_, (hP.1 a _ (hp_E_ar hs)).2⟩
  show H'[a]? = some (vp_cell _ _)
  rw [e1, vp_cell_q, vp_cell_q, arrV_store, hp_set_eq]
  congr 2
  funext q
  by_cases hq : q = i
  · subst hq
    simp [updV, va_up]
  · simp [updV, va_up, hq]
theorem hw_li (X : hp_C G cc own nL p s m c) (hP : hp_P G z H) {i v : Int32} (q : ho_li 1 a i z = some v) (hdg : decode cc pc = .ok (.iaload, 1)) (kk : W p l e R s m args below meth c H locs cells slots Q (F0 m (pc + 1) ls (.int v :: rest))) : W p l e R s m args below meth c H locs cells slots Q (F0 m pc ls (.int i :: .ref a :: rest)) := by
  obtain ⟨hx, hb, hown, hml, hwd, hK, hT⟩ := X
  unfold ho_li at q
  split at q
  · rename_i hs
    cases q
    exact va_iald (ws := [(a, .inl (G.2.1 1, (z.1 a).2, .inl (z.2.1 a)))]) hx hb hK (hp_one (hP.1 a _ (hp_E_ai hs.1 (by decide) (by decide))).1) 0 0 rfl rfl hs.2 hdg kk
  · cases q
theorem hw_lz (X : hp_C G cc own nL p s m c) (hP : hp_P G z H) {i v : Int32} (q : ho_li 2 a i z = some v) (hdg : decode cc pc = .ok (.baload, 1)) (kk : W p l e R s m args below meth c H locs cells slots Q (F0 m (pc + 1) ls (.int v :: rest))) : W p l e R s m args below meth c H locs cells slots Q (F0 m pc ls (.int i :: .ref a :: rest)) := by
  obtain ⟨hx, hb, hown, hml, hwd, hK, hT⟩ := X
  unfold ho_li at q
  split at q
  · rename_i hs
    cases q
    exact va_zald (ws := [(a, .inl (G.2.1 2, (z.1 a).2, .inl (z.2.1 a)))]) hx hb hK (hp_one (hP.1 a _ (hp_E_ai hs.1 (by decide) (by decide))).1) 0 1 rfl rfl hs.2 hdg kk
  · cases q
theorem hw_lr (X : hp_C G cc own nL p s m c) (hP : hp_P G z H) {t0 : Nat} (ht : (h_tys G.2.1)[t0]? = some (G.2.1 (ci + 53), .object C)) {i : Int32} {v : Nat} (q : ho_lr ci a i z = some v) (hdg : decode cc pc = .ok (.aaload, 1)) (kk : W p l e R s m args below meth c H locs cells slots Q (F0 m (pc + 1) ls (.ref v :: rest))) : W p l e R s m args below meth c H locs cells slots Q (F0 m pc ls (.int i :: .ref a :: rest)) := by
  obtain ⟨hx, hb, hown, hml, hwd, hK, hT⟩ := X
  unfold ho_lr at q
  split at q
  · rename_i hs
    refine va_aldq (ws := [(a, .inl (G.2.1 (ci + 53), (z.1 a).2, .inr (.inr (.inr (.inr (z.2.2.1 a))))))]) hx hb hK (hp_one (hP.1 a _ (hp_E_ar hs.1)).1) 0 t0 rfl ht hs.2 hdg ?_
    rw [q]
    exact kk
  · cases q
theorem hw_si (X : hp_C G cc own nL p s m c) (hP : hp_P G z H) (hS : va_S (hp_A G) H0 H locs) {i v : Int32} (q : ho_si a i v z = some z1) (hdg : decode cc pc = .ok (.iastore, 1)) (kk : ∀ (H1 : Heap) (locs1 : List Loc), hp_P G z1 H1 → va_S (hp_A G) H0 H1 locs1 → W p l e R s m args below meth c H1 locs1 cells slots Q (F0 m (pc + 1) ls rest)) : W p l e R s m args below meth c H locs cells slots Q (F0 m pc ls (.int v :: .int i :: .ref a :: rest)) := by
  obtain ⟨hx, hb, hown, hml, hwd, hK, hT⟩ := X
  unfold ho_si at q
  split at q
  · rename_i hs
    cases q
    have hc := hP.1 a _ (hp_E_ai hs.1 (by decide) (by decide))
    refine W.iast hx hb hc.1 ((hK.2 0 _ rfl).1 (z.1 a).2 (fun j => .int (z.2.1 a j))) (fun q => by cases q) (by show ¬ (i < 0 ∨ (arrV _ _ _).slots.size ≤ _); rw [arrV_size]; exact hs.2) rfl rfl hdg fun H1 e1 e2 e3 => ?_
    exact kk H1 _ (hP.arrI hs.1 (by decide) (by decide) e1 e2 e3) (hS.put e2 e3 hc.2)
  · cases q
theorem hw_sz (X : hp_C G cc own nL p s m c) (hP : hp_P G z H) (hS : va_S (hp_A G) H0 H locs) {i v : Int32} (q : ho_sz a i v z = some z1) (hdg : decode cc pc = .ok (.bastore, 1)) (kk : ∀ (H1 : Heap) (locs1 : List Loc), hp_P G z1 H1 → va_S (hp_A G) H0 H1 locs1 → W p l e R s m args below meth c H1 locs1 cells slots Q (F0 m (pc + 1) ls rest)) : W p l e R s m args below meth c H locs cells slots Q (F0 m pc ls (.int v :: .int i :: .ref a :: rest)) := by
  obtain ⟨hx, hb, hown, hml, hwd, hK, hT⟩ := X
  unfold ho_sz at q
  split at q
  · rename_i hs
    cases q
    have hc := hP.1 a _ (hp_E_ai hs.1 (by decide) (by decide))
    refine W.zast hx hb hc.1 ((hK.2 1 _ rfl).1 (z.1 a).2 (fun j => .int (z.2.1 a j))) (fun q => by cases q) (by show ¬ (i < 0 ∨ (arrV _ _ _).slots.size ≤ _); rw [arrV_size]; exact hs.2) rfl rfl hdg fun H1 e1 e2 e3 => ?_
    exact kk H1 _ (hP.arrI hs.1 (by decide) (by decide) e1 e2 e3) (hS.put e2 e3 hc.2)
  · cases q
theorem hw_sr (X : hp_C G cc own nL p s m c) (hP : hp_P G z H) (hS : va_S (hp_A G) H0 H locs) (L : hp_L ci C T N ty) {t0 : Nat} (ht : (h_tys G.2.1)[t0]? = some (G.2.1 (ci + 53), .object C)) {i : Int32} {v : Nat} (q : ho_sr ci a i v z = some z1) (hdg : decode cc pc = .ok (.aastore, 1)) (kk : ∀ (H1 : Heap) (locs1 : List Loc), hp_P G z1 H1 → va_S (hp_A G) H0 H1 locs1 → W p l e R s m args below meth c H1 locs1 cells slots Q (F0 m (pc + 1) ls rest)) : W p l e R s m args below meth c H locs cells slots Q (F0 m pc ls (.ref v :: .int i :: .ref a :: rest)) := by
  obtain ⟨hx, hb, hown, hml, hwd, hK, hT⟩ := X
  unfold ho_sr at q
  split at q
  · rename_i hs
    obtain ⟨hs1, hs2, hs3⟩ := hs
    cases q
    have hc := hP.1 a _ (hp_E_ar hs1)
    have hlt : i.toNatClampNeg < (z.1 a).2 := Nat.not_le.mp fun q => hs2 (Or.inr q)
    have h0 : ¬ i < 0 := fun q => hs2 (Or.inl q)
    obtain ⟨cellV, g1, g2, g3, -, -⟩ := hP.obj L hs3
    have hcls := (hK.1 ci _ L.1).2
    obtain ⟨kA, comp, k1, k2, k3, -⟩ := (hK.2 t0 _ ht).2
    have hcomp : comp = G.1.1 ci := Option.some.inj (k3.symm.trans hcls.1)
    subst hcomp
    obtain ⟨kC, hkC, -⟩ := hcls.2
    refine W.aast hx hb hc.1 (fun q h => by cases h) (fun h => by cases h) k1 k2 rfl hkC ⟨h0, by show _ < (arrV _ _ _).slots.size; rw [arrV_size]; exact hlt⟩ g1 (fun q h => by rw [g3] at h; cases h) (by rw [g2]; exact hkC) (by rw [g2]; exact va_assign hcls) rfl rfl hdg fun H1 e1 e2 e3 => ?_
    exact kk H1 _ (hP.arrR (x := some v) hs1 e1 e2 e3) (hS.put e2 e3 hc.2)
  · cases q
theorem hw_ln (X : hp_C G cc own nL p s m c) (hP : hp_P G z H) {kd t0 : Nat} {fty : FieldType} (h0 : 0 < kd) (h3 : kd < 3) (ht : (h_tys G.2.1)[t0]? = some (G.2.1 kd, fty)) {v : Int32} (q : ho_ln kd a z = some v) (hdg : decode cc pc = .ok (.arraylength, 1)) (kk : W p l e R s m args below meth c H locs cells slots Q (F0 m (pc + 1) ls (.int v :: rest))) : W p l e R s m args below meth c H locs cells slots Q (F0 m pc ls (.ref a :: rest)) := by
  obtain ⟨hx, hb, hown, hml, hwd, hK, hT⟩ := X
  unfold ho_ln at q
  split at q
  · rename_i hs
    cases q
    exact va_alen (ws := [(a, .inl (G.2.1 kd, (z.1 a).2, .inl (z.2.1 a)))]) hx hb hK (hp_one (hP.1 a _ (hp_E_ai hs h0 h3)).1) 0 t0 rfl ht rfl hdg kk
  · cases q
theorem hw_lnr (X : hp_C G cc own nL p s m c) (hP : hp_P G z H) {t0 : Nat} {fty : FieldType} (ht : (h_tys G.2.1)[t0]? = some (G.2.1 (ci + 53), fty)) {v : Int32} (q : ho_ln (ci + 53) a z = some v) (hdg : decode cc pc = .ok (.arraylength, 1)) (kk : W p l e R s m args below meth c H locs cells slots Q (F0 m (pc + 1) ls (.int v :: rest))) : W p l e R s m args below meth c H locs cells slots Q (F0 m pc ls (.ref a :: rest)) := by
  obtain ⟨hx, hb, hown, hml, hwd, hK, hT⟩ := X
  unfold ho_ln at q
  split at q
  · rename_i hs
    cases q
    exact va_alen (ws := [(a, .inl (G.2.1 (ci + 53), (z.1 a).2, .inr (.inr (.inr (.inr (z.2.2.1 a))))))]) hx hb hK (hp_one (hP.1 a _ (hp_E_ar hs)).1) 0 t0 rfl ht rfl hdg kk
  · cases q
/-- a static table: getstatic, then a load -/
theorem hw_gs (X : hp_C G cc own nL p s m c) (hS : va_S (hp_A G) s.heap H locs) {q : String × String × Nat × List Int32} (hq : q ∈ h_st) (hlink : Cond.fieldLink own index q.1 q.2.1 "[I" ∈ h_tb) (hdg : decode cc pc = .ok (.getstatic index, 3)) (kk : W p l e R s m args below meth c H locs cells slots Q (F0 m (pc + 3) ls (.ref (G.2.2.2 q.2.2.1) :: rest))) : W p l e R s m args below meth c H locs cells slots Q (F0 m pc ls rest) := by
  obtain ⟨hx, hb, hown, hml, hwd, hK, hT⟩ := X
  exact va_gets hx hb (hT q hq).1 hS hown (hp_use hwd hlink args) (fun _ h => h) hdg kk
theorem hw_gsN {host : String} (X : hp_C G cc own nL p s m c) (hS : va_S (hp_A G) s.heap H locs) {q : String × String × Nat × List Int32} (hq : q ∈ h_st) (hlink : Cond.fieldLinkNest own index q.1 q.2.1 "[I" host ∈ h_tb) (hdg : decode cc pc = .ok (.getstatic index, 3)) (kk : W p l e R s m args below meth c H locs cells slots Q (F0 m (pc + 3) ls (.ref (G.2.2.2 q.2.2.1) :: rest))) : W p l e R s m args below meth c H locs cells slots Q (F0 m pc ls rest) := by
  obtain ⟨hx, hb, hown, hml, hwd, hK, hT⟩ := X
  exact va_getsN hx hb (hT q hq).1 hS hown (hp_use hwd hlink args) (fun _ h => h) hdg kk
theorem hw_tl (X : hp_C G cc own nL p s m c) (hS : va_S (hp_A G) s.heap H locs) {q : String × String × Nat × List Int32} (hq : q ∈ h_st) {i v : Int32} (hv : ho_tl q.2.2.2 i = some v) (hdg : decode cc pc = .ok (.iaload, 1)) (kk : W p l e R s m args below meth c H locs cells slots Q (F0 m (pc + 1) ls (.int v :: rest))) : W p l e R s m args below meth c H locs cells slots Q (F0 m pc ls (.int i :: .ref (G.2.2.2 q.2.2.1) :: rest)) := by
  obtain ⟨hx, hb, hown, hml, hwd, hK, hT⟩ := X
  unfold ho_tl at hv
  split at hv
  · rename_i hs
    cases hv
    exact va_ti hx hb (hT q hq).2 hS hs rfl hdg kk
  · cases hv
theorem hw_tn (X : hp_C G cc own nL p s m c) (hS : va_S (hp_A G) s.heap H locs) {q : String × String × Nat × List Int32} (hq : q ∈ h_st) {v : Int32} (hv : Int32.ofNat q.2.2.2.length = v) (hdg : decode cc pc = .ok (.arraylength, 1)) (kk : W p l e R s m args below meth c H locs cells slots Q (F0 m (pc + 1) ls (.int v :: rest))) : W p l e R s m args below meth c H locs cells slots Q (F0 m pc ls (.ref (G.2.2.2 q.2.2.1) :: rest)) := by
  obtain ⟨hx, hb, hown, hml, hwd, hK, hT⟩ := X
  exact va_tlen hx hb (hT q hq).2 hS hv hdg kk
theorem hw_dv (X : hp_C G cc own nL p s m c) {x y v : Int32} (q : ho_dv x y = some v) (hdg : decode cc pc = .ok (.idiv, 1)) (kk : W p l e R s m args below meth c H locs cells slots Q (F0 m (pc + 1) ls (.int v :: rest))) : W p l e R s m args below meth c H locs cells slots Q (F0 m pc ls (.int y :: .int x :: rest)) := by
  unfold ho_dv at q
  split at q
  · cases q
  · rename_i hs
    cases q
    exact lv_idiv X.1 X.2.1 hdg hs kk
theorem hw_rm (X : hp_C G cc own nL p s m c) {x y v : Int32} (q : ho_rm x y = some v) (hdg : decode cc pc = .ok (.irem, 1)) (kk : W p l e R s m args below meth c H locs cells slots Q (F0 m (pc + 1) ls (.int v :: rest))) : W p l e R s m args below meth c H locs cells slots Q (F0 m pc ls (.int y :: .int x :: rest)) := by
  unfold ho_rm at q
  split at q
  · cases q
  · rename_i hs
    cases q
    exact lv_irem X.1 X.2.1 hdg hs kk
end HW
