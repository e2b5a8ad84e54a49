/-- a contract of a method of java.lang.Math that the machine has no entry for -/
theorem hp_M.ofF {l : Launch} {G : hp_G} {y : MethodName} {cc : ByteArray} {nL : Nat} {ret : Option FieldType} {fr lo mc ms : Nat} {As : List Value} {z : hp_S} {Qc : Array Value → State → Outcome → State → Prop} (hy : plainFor y = true) (hAs : (lg_sl As).length ≤ nL)
    (body : ∀ (p : Program) (e : Env) (s : State) (m : MethodId) (below : List Frame) (meth : Method) (c : Code), hp_C G cc y.cls nL p s m c → meth.sig.returnType = ret → meth.locks = false → meth.name = y.name → hp_P G z s.heap → va_S (hp_A G) s.heap s.heap [] → ∀ ls : Array Slot, lv_has ls nL (lv_args 0 As) → W p l e (hp_rm fr lo mc ms) s m As.toArray below meth c s.heap [] 0 0 (MQ below Qc As.toArray s mc ms (hp_A G)) (F0 m 0 ls [])) : hp_M l G y cc nL ret fr lo mc ms As z Qc := by
  refine va_MetF (cc := cc) (maxL := nL) (ret := ret) hy rfl ?_
  intro p e s m args below meth c s₁ B hml hv
  obtain ⟨rfl, hwd, hK, hP, hT⟩ := hv
  rw [lg_entry_eq]
  exact body p e s m below meth c ⟨B.exec, B.bytes, findClass_of_methodNamed B.named, hml, hwd, hK, hT⟩ B.returns B.notSynchronized (name_of_methodNamed B.named B.method).1 hP va_S.rf _ (lv_entry As hAs)
