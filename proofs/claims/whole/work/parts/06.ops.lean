/-! HELPERS of the printed walks -/
theorem ho_ip {α : Type} {c : Prop} [Decidable c] {A B : Option α} {r : Option α} (hc : c) (h : (if c then A else B) = r) : A = r := by rw [if_pos hc] at h; exact h
theorem ho_in {α : Type} {c : Prop} [Decidable c] {A B : Option α} {r : Option α} (hc : ¬ c) (h : (if c then A else B) = r) : B = r := by rw [if_neg hc] at h; exact h
theorem ho_an {α : Type} {c : Prop} [Decidable c] {A : Option α} {r : α} (h : (if c then A else none) = some r) : c ∧ A = some r := by
  split at h
  · exact ⟨‹c›, h⟩
  · cases h
theorem ho_bd {α β : Type} {x : Option α} {f : α → Option β} {r : β} (h : x.bind f = some r) : ∃ a, x = some a ∧ f a = some r := Option.bind_eq_some_iff.mp h
def ho_id (x : Int32) : Option Int32 := some x
def ho_nw (kd : Nat) (z : hp_S) : Option (Nat × hp_S) := some (z.2.2.2, hp_nw z kd 0)
def ho_na (kd lim : Nat) (v : Int32) (z : hp_S) : Option (Nat × hp_S) := if v < 0 ∨ lim < v.toNatClampNeg then none else some (z.2.2.2, hp_nw z kd v.toNatClampNeg)
def ho_is (c a : Nat) (z : hp_S) : Option Unit := if (z.1 a).1 = c + 3 then some () else none
theorem ho_is_s {c a : Nat} {z : hp_S} {u : Unit} (h : ho_is c a z = some u) : (z.1 a).1 = c + 3 := by
  unfold ho_is at h
  split at h
  · assumption
  · cases h
theorem ho_ne {x : Int32} (k : Int32) {n : Int} (hk : k.toInt = n) (h : ¬ x = k) : x.toInt ≠ n := fun q => h (Int32.toInt_inj.mp (q.trans hk.symm))
section HN
variable {p : Program} {l : Launch} {e : Env} {R : Room} {s : State} {m : MethodId} {args : Array Value} {below : List Frame} {meth : Method} {c : Code} {H : Heap} {locs : List Loc} {cells slots : Nat} {Q : State → Prop}
variable {cc : ByteArray} {pc : Nat} {ls : Array Slot} {rest : List Value} {G : hp_G} {z z1 : hp_S} {own C : String} {nL a ci index N : Nat} {T : u_T} {ty : Nat → FieldType} {H0 : Heap}
theorem hw_id {x v : Int32} (q : ho_id x = some v) (kk : W p l e R s m args below meth c H locs cells slots Q (F0 m pc ls (.int v :: rest))) : W p l e R s m args below meth c H locs cells slots Q (F0 m pc ls (.int x :: rest)) := by
  cases q
  exact kk
theorem hw_nw (X : hp_C G cc own nL p s m c) (hP : hp_P G z H) (hS : va_S (hp_A G) H0 H locs) (L : hp_L ci C T N ty) (k : Cond.classLink own index C ∈ h_tb ∧ Cond.instantiable C N ∈ h_tb ∧ Cond.initialized C ∈ h_tb) (hd : ∀ j, j < N → defaultValue (ty j) = vp_V (hp_fl (h_ft ci) 0 (fun _ => 0) (fun _ => none)) j) (hcells : cells + 1 ≤ R.cells) (hslots : slots + N ≤ R.slots) (q : ho_nw (ci + 3) z = some (a, z1)) (hdg : decode cc pc = .ok (.new index, 3)) (kk : ∀ H1 : Heap, hp_P G z1 H1 → va_S (hp_A G) H0 H1 locs → W p l e R s m args below meth c H1 locs (cells + 1) (slots + N) Q (F0 m (pc + 3) ls (.ref a :: rest))) : W p l e R s m args below meth c H locs cells slots Q (F0 m pc ls rest) := by
  cases q
  exact hw_new X hP hS L k hd hcells hslots hdg kk
theorem hw_nI (X : hp_C G cc own nL p s m c) (hP : hp_P G z H) (hS : va_S (hp_A G) H0 H locs) (k : Cond.arrayClass .int ∈ h_tb) {v : Int32} {lim : Nat} (hbytes : lim ≤ 100000) (hcells : cells + 1 ≤ R.cells) (hslots : slots + lim ≤ R.slots) (q : ho_na 1 lim v z = some (a, z1)) (hdg : decode cc pc = .ok (.newarray .int, 2)) (kk : ∀ H1 : Heap, hp_P G z1 H1 → va_S (hp_A G) H0 H1 locs → W p l e R s m args below meth c H1 locs (cells + 1) (slots + lim) Q (F0 m (pc + 2) ls (.ref a :: rest))) : W p l e R s m args below meth c H locs cells slots Q (F0 m pc ls (.int v :: rest)) := by
  unfold ho_na at q
  split at q
  · cases q
  · rename_i hc
    cases q
    have h1 : ¬ v < 0 := fun h => hc (Or.inl h)
    have h2 : v.toNatClampNeg ≤ lim := Nat.not_lt.mp fun h => hc (Or.inr h)
    exact hw_naI X hP hS k h1 rfl (by show _ * 4 ≤ _; omega) hcells (by omega) hdg (fun H1 g1 g2 => W.widen (Nat.le_refl _) (by omega) (kk H1 g1 g2))
theorem hw_nZ (X : hp_C G cc own nL p s m c) (hP : hp_P G z H) (hS : va_S (hp_A G) H0 H locs) (k : Cond.arrayClass .boolean ∈ h_tb) {v : Int32} {lim : Nat} (hbytes : lim ≤ 100000) (hcells : cells + 1 ≤ R.cells) (hslots : slots + lim ≤ R.slots) (q : ho_na 2 lim v z = some (a, z1)) (hdg : decode cc pc = .ok (.newarray .boolean, 2)) (kk : ∀ H1 : Heap, hp_P G z1 H1 → va_S (hp_A G) H0 H1 locs → W p l e R s m args below meth c H1 locs (cells + 1) (slots + lim) Q (F0 m (pc + 2) ls (.ref a :: rest))) : W p l e R s m args below meth c H locs cells slots Q (F0 m pc ls (.int v :: rest)) := by
  unfold ho_na at q
  split at q
  · cases q
  · rename_i hc
    cases q
    have h1 : ¬ v < 0 := fun h => hc (Or.inl h)
    have h2 : v.toNatClampNeg ≤ lim := Nat.not_lt.mp fun h => hc (Or.inr h)
    exact hw_naZ X hP hS k h1 rfl (by show _ * 1 ≤ _; omega) hcells (by omega) hdg (fun H1 g1 g2 => W.widen (Nat.le_refl _) (by omega) (kk H1 g1 g2))
theorem hw_nA (X : hp_C G cc own nL p s m c) (hP : hp_P G z H) (hS : va_S (hp_A G) H0 H locs) {t0 : Nat} (ht : (h_tys G.2.1)[t0]? = some (G.2.1 (ci + 53), .object C)) (k : Cond.classLink own index C ∈ h_tb ∧ Cond.arrayOver (.object C) ∈ h_tb) {v : Int32} {lim : Nat} (hbytes : lim ≤ 100000) (hcells : cells + 1 ≤ R.cells) (hslots : slots + lim ≤ R.slots) (q : ho_na (ci + 53) lim v z = some (a, z1)) (hdg : decode cc pc = .ok (.anewarray index, 3)) (kk : ∀ H1 : Heap, hp_P G z1 H1 → va_S (hp_A G) H0 H1 locs → W p l e R s m args below meth c H1 locs (cells + 1) (slots + lim) Q (F0 m (pc + 3) ls (.ref a :: rest))) : W p l e R s m args below meth c H locs cells slots Q (F0 m pc ls (.int v :: rest)) := by
  unfold ho_na at q
  split at q
  · cases q
  · rename_i hc
    cases q
    have h1 : ¬ v < 0 := fun h => hc (Or.inl h)
    have h2 : v.toNatClampNeg ≤ lim := Nat.not_lt.mp fun h => hc (Or.inr h)
    exact hw_nr X hP hS ht k h1 rfl (by omega) hcells (by omega) hdg (fun H1 g1 g2 => W.widen (Nat.le_refl _) (by omega) (kk H1 g1 g2))
end HN
