/-! what a fault is, in whole numbers -/
def bI (b : Bool) : Int32 := if b then 1 else 0
theorem bI_t : bI true = 1 := rfl
theorem bI_f : bI false = 0 := rfl
theorem bI_ite {α : Type} {b : Bool} {A B : α} : (if bI b = 0 then A else B) = if b = true then B else A := by cases b <;> rfl
theorem bI_vn (b : Bool) : vp_nar .boolean (bI b) = bI b := by cases b <;> rfl
theorem bI_p {p : Prop} [Decidable p] : (if p then (1 : Int32) else 0) = bI (decide p) := by
  unfold bI
  by_cases h : p <;> simp [h]
section IL
variable {h : Int} {k : Int32}
theorem il_eq (h1 : -1000 ≤ h) (h2 : h ≤ 1000) : (iI h = k) ↔ h = k.toInt := by
  rw [← Int32.toInt_inj, iI_toInt (by omega) (by omega)]
theorem il_le (h1 : -1000 ≤ h) (h2 : h ≤ 1000) : (iI h ≤ k) ↔ h ≤ k.toInt := by
  rw [Int32.le_iff_toInt_le, iI_toInt (by omega) (by omega)]
theorem il_lt (h1 : -1000 ≤ h) (h2 : h ≤ 1000) : (iI h < k) ↔ h < k.toInt := by
  rw [Int32.lt_iff_toInt_lt, iI_toInt (by omega) (by omega)]
theorem li_le (h1 : -1000 ≤ h) (h2 : h ≤ 1000) : (k ≤ iI h) ↔ k.toInt ≤ h := by
  rw [Int32.le_iff_toInt_le, iI_toInt (by omega) (by omega)]
theorem li_lt (h1 : -1000 ≤ h) (h2 : h ≤ 1000) : (k < iI h) ↔ k.toInt < h := by
  rw [Int32.lt_iff_toInt_lt, iI_toInt (by omega) (by omega)]
theorem ii_t (h1 : -1000 ≤ h) (h2 : h ≤ 1000) : (iI h).toInt = h := iI_toInt (by omega) (by omega)
end IL
/-- modulo, floorMod -/
def md_f (x m : Int32) : Int32 := if 0 ≤ x - x / m * m then x - x / m * m else x - x / m * m + m
def fm_f (x m : Int32) : Int32 := if 0 ≤ x ^^^ m then x - x / m * m else if x - x / m * m = 0 then x - x / m * m else x - x / m * m + m
theorem md_tab : ∀ a : Nat, a < 401 → md_f (iI ((a : Int) - 200)) 7 = iI (((a : Int) - 200) % 7) ∧ md_f (iI ((a : Int) - 200)) 12 = iI (((a : Int) - 200) % 12) ∧ fm_f (iI ((a : Int) - 200)) 7 = iI (((a : Int) - 200) % 7) ∧ fm_f (iI ((a : Int) - 200)) 12 = iI (((a : Int) - 200) % 12) := by decide +kernel
theorem md_all {s : Int} (h1 : -200 ≤ s) (h2 : s ≤ 200) : md_f (iI s) 7 = iI (s % 7) ∧ md_f (iI s) 12 = iI (s % 12) ∧ fm_f (iI s) 7 = iI (s % 7) ∧ fm_f (iI s) 12 = iI (s % 12) := by
  have := md_tab (s + 200).toNat (by omega)
  rw [show (((s + 200).toNat : Nat) : Int) - 200 = s by omega] at this
  exact this
theorem md_y (fu : Nat) (x a m : Int32) (hm : ¬ m = 0) (z : hp_S) : f_X7_modulo fu x m a z = some (md_f (x + a) m, z) := by
  unfold f_X7_modulo f_X7_modulo_B17 ho_rm md_f
  rw [if_neg hm, Option.bind_some]
  split <;> rfl
theorem fm_x (fu : Nat) (x m : Int32) (hm : ¬ m = 0) (z : hp_S) : f_J9_floorMod fu x m z = some (fm_f x m, z) := by
  unfold f_J9_floorMod f_J9_floorMod_B18 ho_rm fm_f
  rw [if_neg hm, Option.bind_some]
  split
  · rfl
  · split <;> rfl
section MD
variable {s : Int} (fu : Nat) (z : hp_S)
theorem md_7 (h1 : -200 ≤ s) (h2 : s ≤ 200) : f_X7_modulo fu (iI s) 7 0 z = some (iI (s % 7), z) := by
  rw [md_y _ _ _ _ (by decide), Int32.add_zero, (md_all h1 h2).1]
theorem md_12 (h1 : -200 ≤ s) (h2 : s ≤ 200) : f_X7_modulo fu (iI s) 12 0 z = some (iI (s % 12), z) := by
  rw [md_y _ _ _ _ (by decide), Int32.add_zero, (md_all h1 h2).2.1]
theorem fm_7 (h1 : -200 ≤ s) (h2 : s ≤ 200) : f_J9_floorMod fu (iI s) 7 z = some (iI (s % 7), z) := by
  rw [fm_x _ _ _ (by decide), (md_all h1 h2).2.2.1]
theorem fm_12 (h1 : -200 ≤ s) (h2 : s ≤ 200) : f_J9_floorMod fu (iI s) 12 z = some (iI (s % 12), z) := by
  rw [fm_x _ _ _ (by decide), (md_all h1 h2).2.2.2]
end MD
/-- eighth 1, fifth 2, harsh 3 -/
def nt_ql (s h : Int) : Int := if s % 7 = 0 ∧ h % 12 = 0 then 1 else if s % 7 = 4 ∧ h % 12 = 7 then 2 else if h % 12 = 1 ∨ h % 12 = 2 ∨ h % 12 = 6 ∨ 9 < h % 12 then 3 else 0
def nt_q : Option nt_T → Option nt_T → Int
  | some q, some r => nt_ql ((r.1 : Int) - q.1) (nt_h r - nt_h q)
  | _, _ => -100
theorem nt_qlb (s h : Int) : 0 ≤ nt_ql s h ∧ nt_ql s h ≤ 3 := by
  unfold nt_ql
  split
  · omega
  · split
    · omega
    · split <;> omega
theorem nt_qb (o p : Option nt_T) : -100 ≤ nt_q o p ∧ nt_q o p ≤ 3 := by
  cases o with
  | none => exact (by omega : (-100 : Int) ≤ -100 ∧ (-100 : Int) ≤ 3)
  | some q => cases p with
    | none => exact (by omega : (-100 : Int) ≤ -100 ∧ (-100 : Int) ≤ 3)
    | some r =>
      have := nt_qlb ((r.1 : Int) - q.1) (nt_h r - nt_h q)
      show -100 ≤ nt_ql _ _ ∧ nt_ql _ _ ≤ 3
      omega
def nt_sg (h : Int) : Int := if 0 < h then 1 else if h < 0 then -1 else 0
def nt_way : Option nt_T → Option nt_T → Int
  | some q, some r => nt_sg (nt_h r - nt_h q)
  | _, _ => 0
theorem nt_sgb (h : Int) : nt_sg h = 0 ∨ nt_sg h = 1 ∨ nt_sg h = -1 := by
  unfold nt_sg
  split
  · omega
  · split <;> omega
theorem nt_wayb (o p : Option nt_T) : nt_way o p = 0 ∨ nt_way o p = 1 ∨ nt_way o p = -1 := by
  cases o with
  | none => exact Or.inl rfl
  | some q => cases p with
    | none => exact Or.inl rfl
    | some r => exact nt_sgb _
def nt_go : Option nt_T → Option nt_T → Bool
  | some _, some _ => true
  | _, _ => false
def nt_mv : Option nt_T → Option nt_T → Bool
  | some q, some r => decide (q.1 ≠ r.1 ∨ q.2 ≠ r.2)
  | _, _ => false
def nt_ll (ky : Int) : Nat := ((4 * ky + 6) % 7).toNat
def nt_ls (ky : Int) : Int := if 0 < ky ∧ ((2 * (nt_ll ky : Int) + 1) % 7) < ky then 1 else if ky < 0 ∧ 6 - ((2 * (nt_ll ky : Int) + 1) % 7) < -ky then -1 else 0
def nt_ld (ky : Int) : Option nt_T → Bool
  | some q => decide (q.1 % 7 = nt_ll ky ∧ q.2 = nt_ls ky)
  | _ => false
def nt_lo : List Int := [0, 1, 3, 5, 7, 8, 10]
def nt_hi : List Int := [0, 2, 4, 5, 7, 9, 11]
def nt_l0 (s : Nat) (h : Int) : Bool := decide (12 < h ∨ h = 6 ∨ h = 10 ∨ h = 11 ∨ h - 12 * (s / 7 : Nat) < nt_lo.getD (s % 7) 0 ∨ nt_hi.getD (s % 7) 0 < h - 12 * (s / 7 : Nat))
def nt_lp : Option nt_T → Option nt_T → Bool
  | some q, some r => nt_mv (some q) (some r) && (if q.1 ≤ r.1 then nt_l0 (r.1 - q.1) (nt_h r - nt_h q) else nt_l0 (q.1 - r.1) (nt_h q - nt_h r))
  | _, _ => false
def nt_lt : Option nt_T → Option nt_T → Bool
  | some q, some r => decide (nt_h q < nt_h r)
  | _, _ => false
/-- crosses: of a before, of b behind, of a behind -/
def nt_cr : Option nt_T → Option nt_T → Option nt_T → Bool
  | some q, some r, g => decide (q.1 % 7 = r.1 % 7 ∧ q.2 ≠ r.2) && (match g with | some t => decide (¬ (t.1 % 7 = r.1 % 7 ∧ t.2 = r.2)) | none => true)
  | _, _, _ => false
def nt_jp : Option nt_T → Option nt_T → Bool
  | some q, some r => decide (2 < nt_h r - nt_h q ∨ nt_h r - nt_h q < -2)
  | _, _ => false
def nt_as (ky : Int) : Option nt_T → Option nt_T → Bool
  | some q, some r => nt_mv (some q) (some r) && nt_ld ky (some q) && decide (¬ (r.1 = q.1 + 1 ∧ nt_h r = nt_h q + 1))
  | _, _ => false
/-- the seventh: of 0 before, of a before, of a behind -/
def nt_sv : Option nt_T → Option nt_T → Option nt_T → Bool
  | some p, some q, some r => nt_mv (some q) (some r) && decide (((q.1 : Int) - p.1) % 7 = 6 ∧ ¬ ((r.1 : Int) = q.1 - 1))
  | _, _, _ => false
/-- a pair is broken; b = a stands for none -/
def nt_pr (n : Nat) (ky : Int) (kind a b : Nat) (X Y : Nat → Option nt_T) : Bool :=
  match kind with
  | 0 => decide (a < b) && (decide (nt_way (X a) (Y a) * nt_way (X b) (Y b) = 1 ∧ (nt_q (X a) (X b) = 1 ∨ nt_q (X a) (X b) = 2) ∧ nt_q (X a) (X b) = nt_q (Y a) (Y b)))
  | 1 => decide (a < b) && (decide (nt_way (X a) (Y a) * nt_way (X b) (Y b) = -1 ∧ (nt_q (X a) (X b) = 1 ∨ nt_q (X a) (X b) = 2) ∧ nt_q (X a) (X b) = nt_q (Y a) (Y b)))
  | 2 => decide (a = 0 ∧ b = n - 1) && (decide (nt_way (X a) (Y a) * nt_way (X b) (Y b) = 1 ∧ (nt_q (Y a) (Y b) = 1 ∨ nt_q (Y a) (Y b) = 2) ∧ nt_q (X a) (X b) ≠ nt_q (Y a) (Y b)) && nt_jp (X b) (Y b))
  | 4 => decide (b = a + 1) && (nt_go (X a) (Y a) && nt_go (X b) (Y b) && (nt_lt (X b) (Y a) || nt_lt (Y b) (X a)))
  | 7 => decide (a = b) && nt_lp (X a) (Y a)
  | 8 => decide (a = b) && nt_as ky (X a) (Y a)
  | 10 => decide (a = b ∧ 0 < a) && nt_sv (X 0) (X a) (Y a)
  | 11 => decide (a ≠ b) && nt_cr (X a) (Y b) (Y a)
  | 12 => decide (a < b) && (decide (nt_way (X a) (Y a) * nt_way (X b) (Y b) = 1 ∧ nt_q (X a) (X b) ≠ 3 ∧ nt_q (Y a) (Y b) = 3))
  | _ => false
def nt_up : Option nt_T → Option nt_T → Int
  | some q, some r => nt_h r - nt_h q
  | _, _ => 0
/-- a moment is broken -/
def nt_mo (ky : Int) (low high : Nat → Int32) (kind a b : Nat) (X Y : Nat → Option nt_T) : Bool :=
  match kind with
  | 3 => decide (a < b) && (nt_go (Y a) (Y b) && decide (nt_up (Y a) (Y b) < 0))
  | 5 => decide (b = a + 1) && (nt_go (Y a) (Y b) && decide ((if a = 0 then 19 else 12) < nt_up (Y a) (Y b)))
  | 6 => decide (a = b) && (match Y a with | some r => (match X a with | some q => decide (q.1 ≠ r.1 ∨ q.2 ≠ r.2) | none => true) && decide (¬ (low a ≤ iI (nt_h r) ∧ iI (nt_h r) ≤ high a)) | none => false)
  | 9 => decide (a < b) && (nt_ld ky (Y a) && nt_ld ky (Y b))
  | 13 => decide (b = a + 1) && (nt_go (Y a) (Y b) && decide (nt_up (Y a) (Y b) = 0))
  | _ => false
def nt_mk (kind : Nat) : Bool := kind == 3 || kind == 5 || kind == 6 || kind == 9 || kind == 13
def nt_al (kind : Nat) : Bool := kind == 6 || kind == 7 || kind == 8 || kind == 10
