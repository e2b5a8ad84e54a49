/-! System.arraycopy of ints, over the heap of numbers -/
def ho_cp (a0 : Nat) (sp : Int32) (a1 : Nat) (dp n : Int32) (z : hp_S) : Option hp_S :=
  if (z.1 a0).1 = 1 ∧ (z.1 a1).1 = 1 ∧ ¬ sp < 0 ∧ ¬ dp < 0 ∧ ¬ n < 0 ∧ sp.toNatClampNeg + n.toNatClampNeg ≤ (z.1 a0).2 ∧ dp.toNatClampNeg + n.toNatClampNeg ≤ (z.1 a1).2 then
    some (z.1, va_up z.2.1 a1 (va_cpy (z.2.1 a0) (z.2.1 a1) sp.toNatClampNeg dp.toNatClampNeg n.toNatClampNeg), z.2.2.1, z.2.2.2) else none
theorem hp_nn (v : Int32) (h : ¬ v < 0) : v.toInt = (v.toNatClampNeg : Int) := by
  have h0 : (0 : Int) ≤ v.toInt := by
    have := Int32.not_lt.mp h
    simpa using Int32.le_iff_toInt_le.mp this
  show v.toInt = ((v.toInt.toNat : Nat) : Int)
  omega
section HCP
variable {p : Program} {l : Launch} {e : Env} {R : Room} {s : State} {m : MethodId} {args : Array Value} {below : List Frame} {meth : Method} {c : Code} {H : Heap} {locs : List Loc} {cells slots : Nat} {Q : State → Prop}
variable {cc : ByteArray} {pc : Nat} {ls : Array Slot} {rest : List Value} {G : hp_G} {z z1 : hp_S} {own C : String} {nL a0 a1 index : Nat} {H0 : Heap}
theorem hw_cp (X : hp_C G cc own nL p s m c) (hP : hp_P G z H) (hS : va_S (hp_A G) H0 H locs) (hls : ls.size = nL) (k : Cond.methodLink own index arraycopyName ∈ h_tb ∧ Cond.native arraycopyName ∈ h_tb ∧ Cond.static arraycopyName ∈ h_tb ∧ Cond.initialized "java/lang/System" ∈ h_tb) (hframes : 1 ≤ R.frames) (hlocals : (rest.map fun v => v.category).sum + (nativeFrameWords "java/lang/System" "arraycopy" 5 + 11) ≤ R.locals) {sp dp n : Int32} (q : ho_cp a0 sp a1 dp n z = some z1) (hdg : decode cc pc = .ok (.invokestatic index, 3)) (kk : ∀ (H1 : Heap) (locs1 : List Loc), hp_P G z1 H1 → va_S (hp_A G) H0 H1 locs1 → W p l e R s m args below meth c H1 locs1 cells slots Q (F0 m (pc + 3) ls rest)) : W p l e R s m args below meth c H locs cells slots Q (F0 m pc ls (.int n :: .int dp :: .ref a1 :: .int sp :: .ref a0 :: rest)) := by
  obtain ⟨hx, hb, hown, hml, hwd, hK, hT0⟩ := X
  unfold ho_cp at q
  split at q
  · rename_i hs
    obtain ⟨s0, s1, h1, h2, h3, h4, h5⟩ := hs
    cases q
    intro T hT X
    have hc0 := (hP.1 a0 _ (hp_E_ai s0 (by decide) (by decide))).1
    have hc1 := (hP.1 a1 _ (hp_E_ai s1 (by decide) (by decide))).1
    have hba := (hP.1 a1 _ (hp_E_ai s1 (by decide) (by decide))).2
    have hc0 : H[a0]? = some (vp_cell (G.2.1 1) ((z.1 a0).2, .inl (z.2.1 a0))) := hc0
    have hc1 : H[a1]? = some (vp_cell (G.2.1 1) ((z.1 a1).2, .inl (z.2.1 a1))) := hc1
    obtain ⟨-, k0, hk0, cm0, hkk0⟩ := (hK.2 0 (G.2.1 1, .int) rfl).1 (z.1 a0).2 (fun j => .int (z.2.1 a0 j))
    obtain ⟨-, k1, hk1, cm1, hkk1⟩ := (hK.2 0 (G.2.1 1, .int) rfl).1 (z.1 a1).2 (fun j => .int (z.2.1 a1 j))
    obtain ⟨vm', X', step⟩ := X.arraycopy hx hown (hp_use hwd k.1 args) (hp_use hwd k.2.1 args) (hp_use hwd k.2.2.1 args) (hp_use hwd k.2.2.2 args) (src := a0) (dst := a1) (cs := vp_cell (G.2.1 1) ((z.1 a0).2, .inl (z.2.1 a0))) (cd := vp_cell (G.2.1 1) ((z.1 a1).2, .inl (z.2.1 a1))) (srcPos := sp) (destPos := dp) (n := n) (by rw [hT]; exact hc0) (by rw [hT]; exact hc1)
      (fun _ h => by cases h) (fun _ h => by cases h) (fun h => by cases h) (fun h => by cases h) hk0 hk1 hkk0 hkk1 (show ((refKind FieldType.int != refKind FieldType.int) || (!refKind FieldType.int && FieldType.int != FieldType.int)) = false by decide) h1 h2 h3
      (by rw [hp_nn sp h1, hp_nn n h3]; show ¬ _ > ((arrV (G.2.1 1) (z.1 a0).2 (fun j => .int (z.2.1 a0 j))).slots.size : Int); rw [arrV_size]; omega)
      (by rw [hp_nn dp h2, hp_nn n h3]; show ¬ _ > ((arrV (G.2.1 1) (z.1 a1).2 (fun j => .int (z.2.1 a1 j))).slots.size : Int); rw [arrV_size]; omega)
      (fun vm₁ _ i hi => by
        have e0 : (vp_cell (G.2.1 1) ((z.1 a0).2, .inl (z.2.1 a0))).slots.getD (sp.toNatClampNeg + i) .null = .int (z.2.1 a0 (sp.toNatClampNeg + i)) := by
          show (arrV (G.2.1 1) (z.1 a0).2 (fun j => .int (z.2.1 a0 j))).slots.getD _ _ = _
          rw [Array.getD_eq_getD_getElem?, arrV_read _ _ (by omega)]
          rfl
        refine ⟨?_, ?_⟩
        · rw [e0]
          rfl
        · rw [e0]
          exact trivial)
      (g := F0 m pc ls (.int n :: .int dp :: .ref a1 :: .int sp :: .ref a0 :: rest)) rfl (by rw [hml]; exact hls) (rest := rest) rfl (by rw [hb]; exact hdg) hframes (by show 2 * 0 + _ + _ ≤ _; omega)
    have e1 : copied (vp_cell (G.2.1 1) ((z.1 a0).2, .inl (z.2.1 a0))) (vp_cell (G.2.1 1) ((z.1 a1).2, .inl (z.2.1 a1))) sp dp n = vp_cell (G.2.1 1) ((z.1 a1).2, .inl (va_cpy (z.2.1 a0) (z.2.1 a1) sp.toNatClampNeg dp.toNatClampNeg n.toNatClampNeg)) := va_copied (fun z => .int z) _ _ _ _ h4
    rw [e1] at X' step
    have hl : a1 < H.size := (Array.getElem?_eq_some_iff.mp hc1).1
    generalize hcell : vp_cell (G.2.1 1) ((z.1 a1).2, .inl (va_cpy (z.2.1 a0) (z.2.1 a1) sp.toNatClampNeg dp.toNatClampNeg n.toNatClampNeg)) = cell at X' step
    have hheap : ((T.setVm vm').setCell a1 cell).heap = H.setIfInBounds a1 cell := by rw [← hT]; rfl
    have e2 : (H.setIfInBounds a1 cell).size = H.size := by simp
    have e3 : ∀ q : Nat, q ≠ a1 → (H.setIfInBounds a1 cell)[q]? = H[q]? := fun q hq => by simp [Array.getElem?_setIfInBounds, Ne.symm hq]
    have e4 : (H.setIfInBounds a1 cell)[a1]? = some cell := by simp [Array.getElem?_setIfInBounds, hl]
    obtain ⟨t, a, b⟩ := kk (H.setIfInBounds a1 cell) _ (hP.step e2 e3 rfl (fun b hb => hp_E_eq rfl (by simp [va_up, hb]) rfl) (fun x hx => by
        rw [hp_E_ai (z := (z.1, va_up z.2.1 a1 (va_cpy (z.2.1 a0) (z.2.1 a1) sp.toNatClampNeg dp.toNatClampNeg n.toNatClampNeg), z.2.2.1, z.2.2.2)) s1 (by decide) (by decide)] at hx
        cases hx
        refine ⟨?_, hba⟩
        show (H.setIfInBounds a1 cell)[a1]? = some (vp_cell _ _)
        rw [e4, ← hcell]
        simp [va_up]))
      ⟨by rw [e2]; exact hS.1, fun q g1 g2 => by
        rw [e3 q (fun e => g2 (by rw [e]; exact hba))]
        exact hS.2.1 q g1 g2, fun q hq => by
        rcases List.mem_append.mp hq with h | h
        · exact hS.2.2 q h
        · obtain ⟨z, -, hz⟩ := List.mem_map.mp h
          rw [← hz]
          exact hba⟩ _ hheap X'
    exact ⟨t, step t a, b⟩
  · cases q
end HCP
