/-! what is meant, over a row m of 598 ints as the reference lays it: 29 ints a kept state, then the game -/
def sv_row (f : sv_F) (i : Nat) (v : Int → Int) : sv_F := fun x y => if x = i then v y else f x y
theorem sv_row_eq {f : sv_F} {i : Nat} {v : Int → Int} : sv_row f i v i = v := by
  funext y
  simp [sv_row]
theorem sv_row_ne {f : sv_F} {i x : Nat} {v : Int → Int} (h : x ≠ i) : sv_row f i v x = f x := by
  funext y
  simp [sv_row, h]
def sp_sl (nu : Int → Int) (n : Int) : Nat → Int
  | 0 => -1
  | k + 1 => if sp_sl nu n k ≠ -1 then sp_sl nu n k else if nu k = n then k else -1
theorem sp_sl_spec (nu : Int → Int) (n : Int) : ∀ k : Nat, (sp_sl nu n k = -1 ∧ ∀ j : Int, 0 ≤ j → j < k → nu j ≠ n) ∨ (0 ≤ sp_sl nu n k ∧ sp_sl nu n k < k ∧ nu (sp_sl nu n k) = n ∧ ∀ j : Int, 0 ≤ j → j < sp_sl nu n k → nu j ≠ n) := by
  intro k
  induction k with
  | zero => exact Or.inl ⟨rfl, fun j h1 h2 => by omega⟩
  | succ k ih =>
    unfold sp_sl
    rcases ih with ⟨h1, h2⟩ | ⟨h1, h2, h3, h4⟩
    · rw [if_neg (by omega)]
      by_cases h : nu k = n
      · rw [if_pos h]
        exact Or.inr ⟨by omega, by omega, h, fun j a b => h2 j a b⟩
      · rw [if_neg h]
        refine Or.inl ⟨rfl, fun j a b => ?_⟩
        by_cases hj : j = k
        · rw [hj]; exact h
        · exact h2 j a (by omega)
    · rw [if_pos (by omega)]
      exact Or.inr ⟨h1, by omega, h3, h4⟩
theorem sp_sl_none {nu : Int → Int} {n : Int} {k : Nat} (h : ∀ j : Int, 0 ≤ j → j < k → nu j ≠ n) : sp_sl nu n k = -1 := by
  rcases sp_sl_spec nu n k with h1 | ⟨h1, h2, h3, -⟩
  · exact h1.1
  · exact absurd h3 (h _ h1 h2)
theorem sp_sl_eq {nu : Int → Int} {n s : Int} {k : Nat} (h0 : 0 ≤ s) (h1 : s < k) (h2 : nu s = n) (h3 : ∀ j : Int, 0 ≤ j → j < s → nu j ≠ n) : sp_sl nu n k = s := by
  rcases sp_sl_spec nu n k with ⟨-, h⟩ | ⟨a1, a2, a3, a4⟩
  · exact absurd h2 (h s h0 h1)
  · by_cases hlt : sp_sl nu n k < s
    · exact absurd a3 (h3 _ a1 hlt)
    · by_cases hgt : s < sp_sl nu n k
      · exact absurd h2 (a4 s h0 hgt)
      · omega
/-- the place of the number n; -1 -/
def sp_slot (m : Int → Int) (n : Int) : Int := sp_sl (fun j => m (29 * j)) n (m 580).toNat
theorem sp_slot_spec (m : Int → Int) (n : Int) : (sp_slot m n = -1 ∧ ∀ j : Int, 0 ≤ j → j < m 580 → m (29 * j) ≠ n) ∨ (0 ≤ sp_slot m n ∧ sp_slot m n < m 580 ∧ m (29 * sp_slot m n) = n ∧ ∀ j : Int, 0 ≤ j → j < sp_slot m n → m (29 * j) ≠ n) := by
  unfold sp_slot
  rcases sp_sl_spec (fun j => m (29 * j)) n (m 580).toNat with ⟨h1, h2⟩ | ⟨h1, h2, h3, h4⟩
  · exact Or.inl ⟨h1, fun j a b => h2 j a (by omega)⟩
  · exact Or.inr ⟨h1, by omega, h3, h4⟩
theorem sp_slot_none {m : Int → Int} {n : Int} (h : ∀ j : Int, 0 ≤ j → j < m 580 → m (29 * j) ≠ n) : sp_slot m n = -1 := sp_sl_none fun j a b => h j a (by omega)
theorem sp_slot_eq {m : Int → Int} {n s : Int} (h0 : 0 ≤ s) (h1 : s < m 580) (h2 : m (29 * s) = n) (h3 : ∀ j : Int, 0 ≤ j → j < s → m (29 * j) ≠ n) : sp_slot m n = s := sp_sl_eq h0 (by omega) h2 h3
/-- a form up -/
def sp_r1 (v : Int → Int) : Int → Int := fun j => if j = 8 then (v 0 + v 1 + v 2) / 3 else if j = 9 then v 7 else v j
def sp_r2 (v : Int → Int) : Int → Int := fun j => if j = 1 then v 4 else if j = 4 then v 1 else if j = 10 then min 99 (2 * v 9) else if j = 11 then 50 else v j
def sp_rz (v : Int → Int) (a b : Int) : Int → Int := if a ≤ 2 ∧ 3 ≤ b then sp_r2 (if a ≤ 1 ∧ 2 ≤ b then sp_r1 v else v) else if a ≤ 1 ∧ 2 ≤ b then sp_r1 v else v
/-- values that count are of 0 to 99 -/
def sp_ok (v : Int → Int) (n : Int) : Prop := ∀ j : Int, 0 ≤ j → j < n → 0 ≤ v j ∧ v j ≤ 99
theorem sp_r1_ok {v : Int → Int} (h : sp_ok v 8) : sp_ok (sp_r1 v) 10 := by
  intro j h0 h1
  have a0 := h 0 (by omega) (by omega)
  have a1 := h 1 (by omega) (by omega)
  have a2 := h 2 (by omega) (by omega)
  have a7 := h 7 (by omega) (by omega)
  unfold sp_r1
  split
  · omega
  · split
    · exact a7
    · exact h j h0 (by omega)
theorem sp_r2_ok {v : Int → Int} (h : sp_ok v 10) : sp_ok (sp_r2 v) 12 := by
  intro j h0 h1
  have a1 := h 1 (by omega) (by omega)
  have a4 := h 4 (by omega) (by omega)
  have a9 := h 9 (by omega) (by omega)
  unfold sp_r2
  split
  · exact a4
  · split
    · exact a1
    · split
      · omega
      · split
        · omega
        · exact h j h0 (by omega)
theorem sp_rz_ok {v : Int → Int} {a b : Int} (ha : 1 ≤ a) (hab : a ≤ b) (hb : b ≤ 3) (h : sp_ok v (6 + 2 * a)) : sp_ok (sp_rz v a b) (6 + 2 * b) := by
  unfold sp_rz
  by_cases h1 : a ≤ 1 ∧ 2 ≤ b
  · have e : a = 1 := by omega
    subst e
    rw [if_pos h1]
    by_cases h2 : (1 : Int) ≤ 2 ∧ 3 ≤ b
    · rw [if_pos h2, show b = 3 by omega]
      exact sp_r2_ok (sp_r1_ok h)
    · rw [if_neg h2, show b = 2 by omega]
      exact sp_r1_ok h
  · rw [if_neg h1]
    by_cases h2 : a ≤ 2 ∧ 3 ≤ b
    · rw [if_pos h2, show b = 3 by omega]
      have e : a = 2 := by omega
      subst e
      exact sp_r2_ok h
    · rw [if_neg h2, show b = a by omega]
      exact h
theorem sp_rz_self {v : Int → Int} {a b : Int} (h : b ≤ a) : sp_rz v a b = v := by
  unfold sp_rz
  rw [if_neg (by omega), if_neg (by omega)]
theorem sp_rz_1 {v : Int → Int} {b : Int} (h : 2 ≤ b) : sp_rz v 1 b = sp_rz (sp_r1 v) 2 b := by
  unfold sp_rz
  simp [h]
theorem sp_rz_2 {v : Int → Int} {b : Int} (h : 3 ≤ b) : sp_rz v 2 b = sp_rz (sp_r2 v) 3 b := by
  unfold sp_rz
  simp [h]
theorem sp_r1_congr {v w : Int → Int} (h : ∀ j, 0 ≤ j → j < 8 → v j = w j) : ∀ j, 0 ≤ j → j < 10 → sp_r1 v j = sp_r1 w j := by
  intro j h0 h1
  have a0 := h 0 (by omega) (by omega)
  have a1 := h 1 (by omega) (by omega)
  have a2 := h 2 (by omega) (by omega)
  have a7 := h 7 (by omega) (by omega)
  unfold sp_r1
  rw [a0, a1, a2, a7]
  split
  · rfl
  · split
    · rfl
    · exact h j h0 (by omega)
theorem sp_r2_congr {v w : Int → Int} (h : ∀ j, 0 ≤ j → j < 10 → v j = w j) : ∀ j, 0 ≤ j → j < 12 → sp_r2 v j = sp_r2 w j := by
  intro j h0 h1
  have a1 := h 1 (by omega) (by omega)
  have a4 := h 4 (by omega) (by omega)
  have a9 := h 9 (by omega) (by omega)
  unfold sp_r2
  rw [a1, a4, a9]
  split
  · rfl
  · split
    · rfl
    · split
      · rfl
      · split
        · rfl
        · exact h j h0 (by omega)
theorem sp_rz_congr {v w : Int → Int} {a b : Int} (ha : 1 ≤ a) (hab : a ≤ b) (hb : b ≤ 3) (h : ∀ j, 0 ≤ j → j < 6 + 2 * a → v j = w j) : ∀ j, 0 ≤ j → j < 6 + 2 * b → sp_rz v a b j = sp_rz w a b j := by
  unfold sp_rz
  by_cases h1 : a ≤ 1 ∧ 2 ≤ b
  · have e : a = 1 := by omega
    subst e
    rw [if_pos h1, if_pos h1]
    by_cases h2 : (1 : Int) ≤ 2 ∧ 3 ≤ b
    · rw [if_pos h2, if_pos h2, show b = 3 by omega]
      exact sp_r2_congr (sp_r1_congr h)
    · rw [if_neg h2, if_neg h2, show b = 2 by omega]
      exact sp_r1_congr h
  · rw [if_neg h1, if_neg h1]
    by_cases h2 : a ≤ 2 ∧ 3 ≤ b
    · rw [if_pos h2, if_pos h2, show b = 3 by omega]
      have e : a = 2 := by omega
      subst e
      exact sp_r2_congr h
    · rw [if_neg h2, if_neg h2, show b = a by omega]
      exact h
/-- the sum of values -/
def sp_sm (v : Int → Int) : Nat → Int
  | 0 => 7
  | k + 1 => (31 * sp_sm v k + v k) % 9973
theorem sp_sm_s {v : Int → Int} {i : Int} (h : 0 ≤ i) : sp_sm v (i + 1).toNat = (31 * sp_sm v i.toNat + v i) % 9973 := by
  rw [show (i + 1).toNat = i.toNat + 1 by omega]
  show (31 * sp_sm v i.toNat + v (i.toNat : Int)) % 9973 = _
  rw [show ((i.toNat : Nat) : Int) = i by omega]
theorem sp_sm_in (v : Int → Int) : ∀ k, 0 ≤ sp_sm v k ∧ sp_sm v k < 9973 := by
  intro k
  cases k with
  | zero => exact ⟨by simp [sp_sm], by simp [sp_sm]⟩
  | succ k =>
    show 0 ≤ (31 * sp_sm v k + v k) % 9973 ∧ _
    refine ⟨Int.emod_nonneg _ (by omega), Int.emod_lt_of_pos _ (by omega)⟩
theorem sp_sm_congr {v w : Int → Int} {n : Int} (h : ∀ j, 0 ≤ j → j < n → v j = w j) : sp_sm v n.toNat = sp_sm w n.toNat := by
  have : ∀ k : Nat, (k : Int) ≤ n → sp_sm v k = sp_sm w k := by
    intro k
    induction k with
    | zero => intro _; rfl
    | succ k ih =>
      intro hk
      show (31 * sp_sm v k + v k) % 9973 = (31 * sp_sm w k + w k) % 9973
      rw [ih (by omega), h k (by omega) (by omega)]
  by_cases hn : 0 ≤ n
  · exact this _ (by omega)
  · rw [show n.toNat = 0 by omega]
    rfl
