/-! A HEAP OF NUMBERS. A state of the two programs is four functions: the kind and the length of what lies at an address, its ints, its references, the next address. -/
abbrev hp_S : Type := (Nat → Nat × Nat) × (Nat → Nat → Int32) × (Nat → Nat → Option Nat) × Nat
/-- the launch's own numbers: classes and slots, array classes by kind, the first address that is ours, where the static tables lie -/
abbrev hp_G : Type := va_G × (Nat → ClassId) × Nat × (Nat → Nat)
def hp_set {α : Type} (f : Nat → Nat → α) (a k : Nat) (v : α) : Nat → Nat → α := va_up f a (va_up (f a) k v)
def hp_pI (z : hp_S) (a k : Nat) (v : Int32) : hp_S := (z.1, hp_set z.2.1 a k v, z.2.2.1, z.2.2.2)
def hp_pR (z : hp_S) (a k : Nat) (v : Option Nat) : hp_S := (z.1, z.2.1, hp_set z.2.2.1 a k v, z.2.2.2)
def hp_nw (z : hp_S) (kd n : Nat) : hp_S := (va_up z.1 z.2.2.2 (kd, n), va_up z.2.1 z.2.2.2 (fun _ => 0), va_up z.2.2.1 z.2.2.2 (fun _ => none), z.2.2.2 + 1)
/-- an object's fields: false an int, true a reference -/
def hp_fl : List Bool → Nat → (Nat → Int32) → (Nat → Option Nat) → List Value
  | [], _, _, _ => []
  | false :: ts, k, f, g => .int (f k) :: hp_fl ts (k + 1) f g
  | true :: ts, k, f, g => va_rf (g k) :: hp_fl ts (k + 1) f g
/-- kinds: 0 nothing, 1 int[], 2 boolean[], 3 + c an object of class c, 53 + c an array of such -/
def hp_E (G : hp_G) (z : hp_S) (a : Nat) : Option va_E :=
  if (z.1 a).1 = 0 then none
  else if (z.1 a).1 < 3 then some (.inl (G.2.1 (z.1 a).1, (z.1 a).2, .inl (z.2.1 a)))
  else if (z.1 a).1 < 53 then some (.inr ((z.1 a).1 - 3, hp_fl (h_ft ((z.1 a).1 - 3)) 0 (z.2.1 a) (z.2.2.1 a)))
  else some (.inl (G.2.1 (z.1 a).1, (z.1 a).2, .inr (.inr (.inr (.inr (z.2.2.1 a))))))
def hp_P (G : hp_G) (z : hp_S) (H : Heap) : Prop := (∀ (a : Nat) (x : va_E), hp_E G z a = some x → va_at G.1 h_cl (a, x) H ∧ G.2.2.1 ≤ a) ∧ H.size = z.2.2.2 ∧ G.2.2.1 ≤ H.size
abbrev hp_A (G : hp_G) : Nat → Prop := fun q => G.2.2.1 ≤ q
theorem hp_set_ne {α : Type} {f : Nat → Nat → α} {a k b : Nat} {v : α} (h : b ≠ a) : hp_set f a k v b = f b := by simp [hp_set, va_up, h]
theorem hp_set_eq {α : Type} {f : Nat → Nat → α} {a k : Nat} {v : α} : hp_set f a k v a = va_up (f a) k v := by simp [hp_set, va_up]
theorem hp_fl_congr : ∀ (ts : List Bool) (i : Nat) (f f' : Nat → Int32) (g g' : Nat → Option Nat), (∀ j, i ≤ j → f j = f' j) → (∀ j, i ≤ j → g j = g' j) → hp_fl ts i f g = hp_fl ts i f' g'
  | [], _, _, _, _, _, _, _ => rfl
  | false :: ts, i, f, f', g, g', h1, h2 => by
    show _ :: _ = _ :: _
    rw [h1 i (Nat.le_refl i), hp_fl_congr ts (i + 1) f f' g g' (fun j hj => h1 j (by omega)) (fun j hj => h2 j (by omega))]
  | true :: ts, i, f, f', g, g', h1, h2 => by
    show _ :: _ = _ :: _
    rw [h2 i (Nat.le_refl i), hp_fl_congr ts (i + 1) f f' g g' (fun j hj => h1 j (by omega)) (fun j hj => h2 j (by omega))]
theorem hp_fl_I : ∀ (ts : List Bool) (i k : Nat) (f : Nat → Int32) (g : Nat → Option Nat), ts[k]? = some false → (hp_fl ts i f g)[k]? = some (.int (f (i + k)))
  | [], _, _, _, _, h => by simp at h
  | false :: ts, i, 0, f, g, _ => rfl
  | true :: ts, i, 0, f, g, h => by simp at h
  | false :: ts, i, k + 1, f, g, h => by
    have e := hp_fl_I ts (i + 1) k f g (by simpa using h)
    rw [show i + 1 + k = i + (k + 1) by omega] at e
    exact e
  | true :: ts, i, k + 1, f, g, h => by
    have e := hp_fl_I ts (i + 1) k f g (by simpa using h)
    rw [show i + 1 + k = i + (k + 1) by omega] at e
    exact e
theorem hp_fl_R : ∀ (ts : List Bool) (i k : Nat) (f : Nat → Int32) (g : Nat → Option Nat), ts[k]? = some true → (hp_fl ts i f g)[k]? = some (va_rf (g (i + k)))
  | [], _, _, _, _, h => by simp at h
  | true :: ts, i, 0, f, g, _ => rfl
  | false :: ts, i, 0, f, g, h => by simp at h
  | false :: ts, i, k + 1, f, g, h => by
    have e := hp_fl_R ts (i + 1) k f g (by simpa using h)
    rw [show i + 1 + k = i + (k + 1) by omega] at e
    exact e
  | true :: ts, i, k + 1, f, g, h => by
    have e := hp_fl_R ts (i + 1) k f g (by simpa using h)
    rw [show i + 1 + k = i + (k + 1) by omega] at e
    exact e
theorem hp_fl_setI : ∀ (ts : List Bool) (i k : Nat) (f : Nat → Int32) (g : Nat → Option Nat) (v : Int32), ts[k]? = some false → (hp_fl ts i f g).set k (.int v) = hp_fl ts i (va_up f (i + k) v) g
  | [], _, _, _, _, _, h => by simp at h
  | true :: ts, i, 0, f, g, v, h => by simp at h
  | false :: ts, i, 0, f, g, v, _ => by
    show _ :: _ = _ :: _
    rw [hp_fl_congr ts (i + 1) f (va_up f (i + 0) v) g g (fun j hj => by simp [va_up]; omega) (fun _ _ => rfl)]
    simp [va_up]
  | false :: ts, i, k + 1, f, g, v, h => by
    have e := hp_fl_setI ts (i + 1) k f g v (by simpa using h)
    rw [show i + 1 + k = i + (k + 1) by omega] at e
    show _ :: _ = _ :: _
    rw [e]
    simp [va_up]
  | true :: ts, i, k + 1, f, g, v, h => by
    have e := hp_fl_setI ts (i + 1) k f g v (by simpa using h)
    rw [show i + 1 + k = i + (k + 1) by omega] at e
    show _ :: _ = _ :: _
    rw [e]
theorem hp_fl_setR : ∀ (ts : List Bool) (i k : Nat) (f : Nat → Int32) (g : Nat → Option Nat) (v : Option Nat), ts[k]? = some true → (hp_fl ts i f g).set k (va_rf v) = hp_fl ts i f (va_up g (i + k) v)
  | [], _, _, _, _, _, h => by simp at h
  | false :: ts, i, 0, f, g, v, h => by simp at h
  | true :: ts, i, 0, f, g, v, _ => by
    show _ :: _ = _ :: _
    rw [hp_fl_congr ts (i + 1) f f g (va_up g (i + 0) v) (fun _ _ => rfl) (fun j hj => by simp [va_up]; omega)]
    simp [va_up]
  | false :: ts, i, k + 1, f, g, v, h => by
    have e := hp_fl_setR ts (i + 1) k f g v (by simpa using h)
    rw [show i + 1 + k = i + (k + 1) by omega] at e
    show _ :: _ = _ :: _
    rw [e]
  | true :: ts, i, k + 1, f, g, v, h => by
    have e := hp_fl_setR ts (i + 1) k f g v (by simpa using h)
    rw [show i + 1 + k = i + (k + 1) by omega] at e
    show _ :: _ = _ :: _
    rw [e]
    simp [va_up]
theorem hp_fl_len : ∀ (ts : List Bool) (i : Nat) (f : Nat → Int32) (g : Nat → Option Nat), (hp_fl ts i f g).length = ts.length
  | [], _, _, _ => rfl
  | false :: ts, i, f, g => by show _ + 1 = _ + 1; rw [hp_fl_len ts (i + 1) f g]
  | true :: ts, i, f, g => by show _ + 1 = _ + 1; rw [hp_fl_len ts (i + 1) f g]
theorem hp_E_eq {G : hp_G} {z z' : hp_S} {a : Nat} (h1 : z'.1 a = z.1 a) (h2 : z'.2.1 a = z.2.1 a) (h3 : z'.2.2.1 a = z.2.2.1 a) : hp_E G z' a = hp_E G z a := by
  unfold hp_E
  rw [h1, h2, h3]
theorem hp_E_obj {G : hp_G} {z : hp_S} {a c : Nat} (hs : (z.1 a).1 = c + 3) (hc : c < 50) : hp_E G z a = some (.inr (c, hp_fl (h_ft c) 0 (z.2.1 a) (z.2.2.1 a))) := by
  unfold hp_E
  rw [hs, if_neg (by omega), if_neg (by omega), if_pos (by omega), show c + 3 - 3 = c by omega]
theorem hp_E_ai {G : hp_G} {z : hp_S} {a kd : Nat} (hs : (z.1 a).1 = kd) (h0 : 0 < kd) (h3 : kd < 3) : hp_E G z a = some (.inl (G.2.1 kd, (z.1 a).2, .inl (z.2.1 a))) := by
  unfold hp_E
  rw [hs, if_neg (by omega), if_pos h3]
theorem hp_E_ar {G : hp_G} {z : hp_S} {a c : Nat} (hs : (z.1 a).1 = c + 53) : hp_E G z a = some (.inl (G.2.1 (c + 53), (z.1 a).2, .inr (.inr (.inr (.inr (z.2.2.1 a)))))) := by
  unfold hp_E
  rw [hs, if_neg (by omega), if_neg (by omega), if_neg (by omega)]
/-- one cell has changed -/
theorem hp_P.step {G : hp_G} {z z' : hp_S} {H H' : Heap} {a : Nat} (h : hp_P G z H) (hz : H'.size = H.size) (ho : ∀ q : Nat, q ≠ a → H'[q]? = H[q]?) (hN : z'.2.2.2 = z.2.2.2) (hE : ∀ b, b ≠ a → hp_E G z' b = hp_E G z b) (ha : ∀ x, hp_E G z' a = some x → va_at G.1 h_cl (a, x) H' ∧ G.2.2.1 ≤ a) : hp_P G z' H' := by
  refine ⟨fun b x hx => ?_, by rw [hz, hN]; exact h.2.1, by rw [hz]; exact h.2.2⟩
  by_cases hb : b = a
  · subst hb
    exact ha x hx
  · rw [hE b hb] at hx
    exact ⟨(h.1 b x hx).1.kept (ho b hb), (h.1 b x hx).2⟩
/-- one cell more -/
theorem hp_P.push {G : hp_G} {z : hp_S} {H H' : Heap} {kd n : Nat} (h : hp_P G z H) (hz : H'.size = H.size + 1) (ho : ∀ q : Nat, q < H.size → H'[q]? = H[q]?) (ha : ∀ x, hp_E G (hp_nw z kd n) H.size = some x → va_at G.1 h_cl (H.size, x) H') : hp_P G (hp_nw z kd n) H' := by
  refine ⟨fun b x hx => ?_, by rw [hz, h.2.1]; rfl, by have := h.2.2; omega⟩
  by_cases hb : b = H.size
  · subst hb
    exact ⟨ha x hx, h.2.2⟩
  · have hb' : b ≠ z.2.2.2 := by rw [← h.2.1]; exact hb
    have e : hp_E G (hp_nw z kd n) b = hp_E G z b := hp_E_eq (by simp [hp_nw, va_up, hb']) (by simp [hp_nw, va_up, hb']) (by simp [hp_nw, va_up, hb'])
    rw [e] at hx
    exact ⟨(h.1 b x hx).1.kept (ho b (h.1 b x hx).1.lt), (h.1 b x hx).2⟩
theorem hp_E_pI_ne {G : hp_G} {z : hp_S} {a k b : Nat} {v : Int32} (h : b ≠ a) : hp_E G (hp_pI z a k v) b = hp_E G z b := hp_E_eq rfl (by simp [hp_pI, hp_set_ne h]) rfl
theorem hp_E_pR_ne {G : hp_G} {z : hp_S} {a k b : Nat} {v : Option Nat} (h : b ≠ a) : hp_E G (hp_pR z a k v) b = hp_E G z b := hp_E_eq rfl rfl (by simp [hp_pR, hp_set_ne h])
/-! THE OPERATIONS: what an instruction gives, or none -/
def ho_gi (c a k : Nat) (z : hp_S) : Option Int32 := if (z.1 a).1 = c + 3 then some (z.2.1 a k) else none
def ho_gr (c a k : Nat) (z : hp_S) : Option Nat := if (z.1 a).1 = c + 3 then z.2.2.1 a k else none
def ho_pi (c a k : Nat) (v : Int32) (z : hp_S) : Option hp_S := if (z.1 a).1 = c + 3 then some (hp_pI z a k v) else none
def ho_pr (c a k v : Nat) (z : hp_S) : Option hp_S := if (z.1 a).1 = c + 3 then some (hp_pR z a k (some v)) else none
def ho_li (kd a : Nat) (i : Int32) (z : hp_S) : Option Int32 := if (z.1 a).1 = kd ∧ ¬ (i < 0 ∨ (z.1 a).2 ≤ i.toNatClampNeg) then some (z.2.1 a i.toNatClampNeg) else none
def ho_si (a : Nat) (i v : Int32) (z : hp_S) : Option hp_S := if (z.1 a).1 = 1 ∧ ¬ (i < 0 ∨ (z.1 a).2 ≤ i.toNatClampNeg) then some (hp_pI z a i.toNatClampNeg v) else none
def ho_sz (a : Nat) (i v : Int32) (z : hp_S) : Option hp_S := if (z.1 a).1 = 2 ∧ ¬ (i < 0 ∨ (z.1 a).2 ≤ i.toNatClampNeg) then some (hp_pI z a i.toNatClampNeg (vp_nar .boolean v)) else none
def ho_lr (c a : Nat) (i : Int32) (z : hp_S) : Option Nat := if (z.1 a).1 = c + 53 ∧ ¬ (i < 0 ∨ (z.1 a).2 ≤ i.toNatClampNeg) then z.2.2.1 a i.toNatClampNeg else none
def ho_sr (c a : Nat) (i : Int32) (v : Nat) (z : hp_S) : Option hp_S := if (z.1 a).1 = c + 53 ∧ ¬ (i < 0 ∨ (z.1 a).2 ≤ i.toNatClampNeg) ∧ (z.1 v).1 = c + 3 then some (hp_pR z a i.toNatClampNeg (some v)) else none
def ho_ln (kd a : Nat) (z : hp_S) : Option Int32 := if (z.1 a).1 = kd then some (Int32.ofNat (z.1 a).2) else none
def ho_tl (t : List Int32) (i : Int32) : Option Int32 := if ¬ (i < 0 ∨ t.length ≤ i.toNatClampNeg) then some (t.getD i.toNatClampNeg 0) else none
def ho_dv (x y : Int32) : Option Int32 := if y = 0 then none else some (x / y)
def ho_rm (x y : Int32) : Option Int32 := if y = 0 then none else some (x - x / y * y)
