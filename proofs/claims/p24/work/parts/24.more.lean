/-- in how many of the first k values two differ -/
def sp_dn (v w : Int → Int) : Nat → Int
  | 0 => 0
  | k + 1 => sp_dn v w k + (if v k = w k then 0 else 1)
theorem sp_dn_s {v w : Int → Int} {i : Int} (h : 0 ≤ i) : sp_dn v w (i + 1).toNat = sp_dn v w i.toNat + (if v i = w i then 0 else 1) := by
  rw [show (i + 1).toNat = i.toNat + 1 by omega]
  show sp_dn v w i.toNat + (if v (i.toNat : Int) = w (i.toNat : Int) then 0 else 1) = _
  rw [show ((i.toNat : Nat) : Int) = i by omega]
theorem sp_dn_in (v w : Int → Int) : ∀ k : Nat, 0 ≤ sp_dn v w k ∧ sp_dn v w k ≤ k := by
  intro k
  induction k with
  | zero => exact ⟨by simp [sp_dn], by simp [sp_dn]⟩
  | succ k ih =>
    show 0 ≤ sp_dn v w k + (if v k = w k then 0 else 1) ∧ sp_dn v w k + (if v k = w k then 0 else 1) ≤ ((k + 1 : Nat) : Int)
    split <;> omega
theorem sp_dn_congr {v w v' w' : Int → Int} {n : Int} (hv : ∀ j, 0 ≤ j → j < n → v j = v' j) (hw : ∀ j, 0 ≤ j → j < n → w j = w' j) : sp_dn v w n.toNat = sp_dn v' w' n.toNat := by
  have : ∀ k : Nat, (k : Int) ≤ n → sp_dn v w k = sp_dn v' w' k := by
    intro k
    induction k with
    | zero => intro _; rfl
    | succ k ih =>
      intro hk
      show sp_dn v w k + (if v k = w k then 0 else 1) = sp_dn v' w' k + (if v' k = w' k then 0 else 1)
      rw [ih (by omega), hv k (by omega) (by omega), hw k (by omega) (by omega)]
  by_cases hn : 0 ≤ n
  · exact this _ (by omega)
  · rw [show n.toNat = 0 by omega]
    rfl
theorem sp_dn_comm (v w : Int → Int) : ∀ k : Nat, sp_dn v w k = sp_dn w v k := by
  intro k
  induction k with
  | zero => rfl
  | succ k ih =>
    show sp_dn v w k + (if v k = w k then 0 else 1) = sp_dn w v k + (if w k = v k then 0 else 1)
    rw [ih]
    by_cases h : v k = w k
    · rw [if_pos h, if_pos h.symm]
    · rw [if_neg h, if_neg (Ne.symm h)]
def sp_up (m : Int → Int) (i a : Int) : Int → Int := fun j => if j = i then a else m j
/-- the row s written whole -/
def sp_ww (m : Int → Int) (s n k : Int) (w : Int → Int) : Int → Int := fun j => if j = 29 * s + 3 then -1 else if j = 29 * s + 4 then n else if 29 * s + 5 ≤ j ∧ j < 29 * s + 5 + k then (if j - (29 * s + 5) < n then j - (29 * s + 5) else 0) else if 29 * s + 17 ≤ j ∧ j < 29 * s + 17 + k then (if j - (29 * s + 17) < n then w (j - (29 * s + 17)) else 0) else m j
/-- the entries of the first k values -/
def sp_wd (m : Int → Int) (s : Int) (v w : Int → Int) : Nat → Int → Int
  | 0 => m
  | k + 1 => if v k = w k then sp_wd m s v w k else sp_up (sp_up (sp_wd m s v w k) (29 * s + (5 + sp_dn v w k)) k) (29 * s + (17 + sp_dn v w k)) (w k)
theorem sp_wd_s {m : Int → Int} {s : Int} {v w : Int → Int} {i : Int} (h : 0 ≤ i) : sp_wd m s v w (i + 1).toNat = if v i = w i then sp_wd m s v w i.toNat else sp_up (sp_up (sp_wd m s v w i.toNat) (29 * s + (5 + sp_dn v w i.toNat)) i) (29 * s + (17 + sp_dn v w i.toNat)) (w i) := by
  rw [show (i + 1).toNat = i.toNat + 1 by omega]
  show (if v (i.toNat : Int) = w (i.toNat : Int) then sp_wd m s v w i.toNat else sp_up (sp_up (sp_wd m s v w i.toNat) (29 * s + (5 + sp_dn v w i.toNat)) (i.toNat : Int)) (29 * s + (17 + sp_dn v w i.toNat)) (w (i.toNat : Int))) = _
  rw [show ((i.toNat : Nat) : Int) = i by omega]
theorem sp_wd_out {m : Int → Int} {s : Int} {v w : Int → Int} {j : Int} : ∀ k : Nat, k ≤ 12 → ¬ (29 * s + 5 ≤ j ∧ j < 29 * s + 29) → sp_wd m s v w k j = m j := by
  intro k
  induction k with
  | zero => intro _ _; rfl
  | succ k ih =>
    intro hk hj
    have hd := sp_dn_in v w k
    show (if v k = w k then sp_wd m s v w k else sp_up (sp_up (sp_wd m s v w k) (29 * s + (5 + sp_dn v w k)) k) (29 * s + (17 + sp_dn v w k)) (w k)) j = m j
    split
    · exact ih (by omega) hj
    · unfold sp_up
      rw [if_neg (by omega), if_neg (by omega)]
      exact ih (by omega) hj
theorem sv_u_row {f : sv_F} {i : Nat} {j a : Int} : sv_u f i j a = sv_row f i (sp_up (f i) j a) := by
  funext x y
  grind [sv_u, sv_row, sp_up]
theorem sv_row_row {f : sv_F} {i : Nat} {v w : Int → Int} : sv_row (sv_row f i v) i w = sv_row f i w := by
  funext x y
  grind [sv_row]
theorem sv_row_id {f : sv_F} {i : Nat} : sv_row f i (f i) = f := by
  funext x y
  grind [sv_row]
/-- what a reading leaves behind -/
def sp_rq (o : Nat) (m : Int → Int) (n : Int) (f f' : sv_F) : Prop := (∀ x, x ≠ o → x ≠ o + 3 → x ≠ o + 4 → x ≠ o + 5 → f' x = f x) ∧ (∀ j, j ≠ 4 → j ≠ 7 → f' o j = f o j) ∧ (sp_R m n = -1 → f' o 4 = m (29 * sp_slot m n + 1) ∧ ∀ j, 0 ≤ j → j < 6 + 2 * m (29 * sp_slot m n + 1) → f' (o + 3) j = sp_V m n j) ∧ ∃ L : Nat, 1 ≤ L ∧ L ≤ 21 ∧ (∀ k : Nat, k < L → sp_ch m n k ≠ -1) ∧ sp_ch m n L = -1 ∧ f' o 7 = L ∧ ∀ k : Nat, k < L → f' (o + 4) k = sp_ch m n k ∧ f' (o + 5) k = sp_R m (sp_ch m n k)
